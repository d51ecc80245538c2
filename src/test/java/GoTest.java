/** Promise 5. */
public final class GoTest {
    public static void main(String[] args) {
        Due due = new Due();
        BlockRows x = new BlockRows();
        due.same("go(1023)", x.go(1023), 0);
        due.same("go(0)", x.go(0), 1023);
        due.same("go(0) again", x.go(0), 0);
        runsThen(due);
        answersAPlaceOutsideMemory(due);
        refuses(due);
        due.end();
    }

    private static void runsThen(Due due) {
        BlockRows x = Due.machineAt(0, 0x30, 0x00, 0x00, 0xc0);
        x.run(9);
        due.machine("halted", x, 2, 1, 0, 1);
        due.same("go(2)", x.go(2), 2);
        due.machine("it runs, flags stay", x, 2, 1, 0, 0);
        x.go(3);
        x.run(1);
        due.machine("fault 2", x, 3, 1, 0, 3);
        due.same("go(0)", x.go(0), 3);
        due.machine("it runs", x, 0, 1, 0, 0);
        due.same("run(1)", x.run(1), 1);
        due.same("hits", x.count(2), 1);
    }

    private static void answersAPlaceOutsideMemory(Due due) {
        BlockRows x = Due.machineAt(0, 0x70, 0x80);
        x.run(5);
        due.machine("jumped below 0", x, -126, 0, 0, 4);
        due.same("go(1)", x.go(1), -126);
        due.machine("it runs", x, 1, 0, 0, 0);
    }

    private static void refuses(Due due) {
        BlockRows x = Due.machineAt(5, 0x00);
        x.run(1);
        String before = Due.all(x);
        due.noIndex("go(-1)", () -> x.go(-1));
        due.noIndex("go(1024)", () -> x.go(1024));
        due.noIndex("go(MAX)", () -> x.go(Integer.MAX_VALUE));
        due.noIndex("go(MIN)", () -> x.go(Integer.MIN_VALUE));
        due.unchanged("after refused goes", x, before);
    }
}
