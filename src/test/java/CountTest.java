/** Promise 11. */
public final class CountTest {
    public static void main(String[] args) {
        Due due = new Due();
        // r1 counts down from 3; each turn stores it at 500 + r1.
        BlockRows x = Due.machineAt(0, 0x10, 1, 0x51, 0x02, 0x32, 0x00, 0x31, 0x00, 0x72, 0xf6, 0x00);
        x.set(1, 3);
        x.set(2, 503);
        due.same("run(100)", x.run(100), 15);
        due.counts("three turns", x, 15, 2, 2, 0, 2, 3, 6);
        due.same("memory(501)", x.memory(501), 1);
        due.same("memory(503)", x.memory(503), 3);
        x.poke(10, 0);
        due.counts("the HALT written", x, 15, 2, 2, 1, 1, 3, 6);
        due.same("forget()", x.forget(), 1);
        due.counts("forgotten", x, 15, 2, 2, 2, 0, 3, 6);
        String before = Due.all(x);
        for (int what : new int[] {-1, 7, 8, Integer.MAX_VALUE, Integer.MIN_VALUE}) {
            due.same("count(" + what + ")", x.count(what), BlockRows.NONE);
        }
        due.unchanged("looking", x, before);
        manySteps(due);
        due.end();
    }

    private static void manySteps(Due due) {
        BlockRows x = Due.machineAt(0, 0x70, 0xfe);
        for (int call = 0; call < 400; call++) {
            due.same("run(100)", x.run(100), 100);
        }
        due.counts("40000 jumps", x, 40000, 1, 39999, 0, 1, 0, 1);
    }
}
