/** Promise 4. */
public final class SetTest {
    public static void main(String[] args) {
        Due due = new Due();
        BlockRows x = new BlockRows();
        for (int r = 0; r < 8; r++) {
            due.same("set(" + r + ", ..)", x.set(r, Integer.MIN_VALUE + r), 0);
        }
        for (int r = 0; r < 8; r++) {
            due.same("set(" + r + ", ..) again", x.set(r, Integer.MAX_VALUE - r), Integer.MIN_VALUE + r);
            due.same("register(" + r + ")", x.register(r), Integer.MAX_VALUE - r);
        }
        keepsFlagsAndState(due);
        String before = Due.all(x);
        due.noIndex("set(-1, 5)", () -> x.set(-1, 5));
        due.noIndex("set(8, 5)", () -> x.set(8, 5));
        due.noIndex("set(11, 5)", () -> x.set(11, 5));
        due.noIndex("set(MAX, 5)", () -> x.set(Integer.MAX_VALUE, 5));
        due.noIndex("set(MIN, 5)", () -> x.set(Integer.MIN_VALUE, 5));
        due.unchanged("after refused sets", x, before);
        due.end();
    }

    private static void keepsFlagsAndState(Due due) {
        BlockRows x = Due.machineAt(0, 0x30, 0x00, 0x00);
        x.run(5);
        due.machine("r0 - r0, halted", x, 2, 1, 0, 1);
        x.set(0, -5);
        due.machine("after set(0, -5)", x, 2, 1, 0, 1);
        due.same("kept", x.count(4), 1);
    }
}
