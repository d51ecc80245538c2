/** Promise 2. */
public final class PokeTest {
    public static void main(String[] args) {
        Due due = new Due();
        answersTheByteBefore(due);
        throwsOutBlocks(due);
        refuses(due);
        due.end();
    }

    private static void answersTheByteBefore(Due due) {
        BlockRows x = new BlockRows();
        due.same("poke(0, 255)", x.poke(0, 255), 0);
        due.same("poke(0, 1)", x.poke(0, 1), 255);
        due.same("poke(1023, 128)", x.poke(1023, 128), 0);
        due.same("poke(1023, 0)", x.poke(1023, 0), 128);
        due.same("memory(0)", x.memory(0), 1);
        due.same("memory(1)", x.memory(1), 0);
        due.same("bytes written by STORE", x.count(5), 0);
    }

    private static void throwsOutBlocks(Due due) {
        // Three blocks: 100 .. 105 (row 4), 102 .. 105 (row 6), 104 .. 105 (row 8).
        int[] program = {0x10, 1, 0x11, 2, 0x70, 0xfa};
        for (int at = 99; at <= 106; at++) {
            BlockRows x = Due.machineAt(100, program);
            x.run(1);
            x.run(1);
            x.run(1);
            due.counts("three blocks", x, 3, 3, 0, 0, 3, 0, 6);
            // The same byte again: it is written all the same.
            x.poke(at, x.memory(at));
            int out = at < 100 || at > 105 ? 0 : at < 102 ? 1 : at < 104 ? 2 : 3;
            String when = "poke at " + at;
            due.counts(when, x, 3, 3, 0, out, 3 - out, 0, 6);
            due.row(when, x, 4, out > 0 ? new int[] {-1, 0, 0} : new int[] {100, 3, 6});
            due.row(when, x, 6, out > 1 ? new int[] {-1, 0, 0} : new int[] {102, 2, 4});
            due.row(when, x, 8, out > 2 ? new int[] {-1, 0, 0} : new int[] {104, 1, 2});
        }
    }

    private static void refuses(Due due) {
        BlockRows x = Due.machineAt(0, 0x10, 1, 0x00);
        x.run(1);
        String before = Due.all(x);
        due.noIndex("poke(-1, 0)", () -> x.poke(-1, 0));
        due.noIndex("poke(1024, 0)", () -> x.poke(1024, 0));
        due.noIndex("poke(MAX, 0)", () -> x.poke(Integer.MAX_VALUE, 0));
        due.noIndex("poke(MIN, 0)", () -> x.poke(Integer.MIN_VALUE, 0));
        due.noArgument("poke(0, -1)", () -> x.poke(0, -1));
        due.noArgument("poke(1023, 256)", () -> x.poke(1023, 256));
        due.noArgument("poke(0, MIN)", () -> x.poke(0, Integer.MIN_VALUE));
        due.noIndex("poke(1024, 256): the first one told", () -> x.poke(1024, 256));
        due.noIndex("poke(-1, -1): the first one told", () -> x.poke(-1, -1));
        due.unchanged("after refused pokes", x, before);
    }
}
