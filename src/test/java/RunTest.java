/** Promise 6: so many steps, by blocks. */
public final class RunTest {
    public static void main(String[] args) {
        Due due = new Due();
        soManySteps(due);
        stepsAreOverBeforeAHalt(due);
        twelveWords(due);
        hits(due);
        replaces(due);
        writesItself(due);
        writesAnother(due);
        runsOutsideMemory(due);
        refuses(due);
        due.end();
    }

    private static void soManySteps(Due due) {
        for (int n = 1; n <= 100; n++) {
            BlockRows x = Due.machineAt(0, 0x10, 1, 0x11, 1, 0x70, 0xfa);
            due.same("run(" + n + ") in a loop", x.run(n), n);
            due.same("steps", x.count(0), n);
            due.machine("run(" + n + ")", x, n % 3 * 2, 0, 0, 0);
            int turns = (n + 2) / 3;
            due.counts("run(" + n + ")", x, n, 1, turns - 1, 0, 1, 0, 3);
        }
    }

    private static void stepsAreOverBeforeAHalt(Due due) {
        BlockRows x = Due.machineAt(0, 0x10, 1, 0x00);
        due.same("run(1)", x.run(1), 1);
        due.machine("a HALT that is not come to", x, 2, 0, 0, 0);
        due.counts("a HALT that is not come to", x, 1, 1, 0, 0, 1, 0, 2);
        due.same("run(1)", x.run(1), 0);
        due.machine("the HALT", x, 2, 0, 0, 1);
        due.counts("the HALT by a block of its own", x, 1, 2, 0, 0, 2, 0, 3);
        BlockRows jump = Due.machineAt(0, 0x70, 0x80);
        jump.run(1);
        due.machine("a jump outside, steps over", jump, -126, 0, 0, 0);
        due.counts("no block is looked for when steps are over", jump, 1, 1, 0, 0, 1, 0, 1);
    }

    private static void twelveWords(Due due) {
        BlockRows x = new BlockRows();
        for (int at = 0; at < 40; at += 2) {
            Due.write(x, at, 0x10, at);
        }
        due.same("run(12)", x.run(12), 12);
        due.row("twelve words", x, 0, 0, 12, 24);
        due.counts("twelve words", x, 12, 1, 0, 0, 1, 0, 12);
        due.same("run(1)", x.run(1), 1);
        due.row("the next", x, 24, 24, 9, 17);
        BlockRows eleven = new BlockRows();
        for (int at = 0; at < 11; at++) {
            eleven.poke(at, 0xa0);
        }
        eleven.run(1);
        due.row("a HALT as the twelfth", eleven, 0, 0, 12, 12);
        eleven.poke(11, 0xa0);
        eleven.go(0);
        eleven.run(1);
        due.row("a HALT behind the twelfth", eleven, 0, 0, 12, 12);
    }

    private static void hits(Due due) {
        BlockRows x = Due.machineAt(64, 0x10, 1, 0x70, 0xfc);
        x.run(4);
        due.counts("one made, one hit", x, 4, 1, 1, 0, 1, 0, 2);
        x.run(1);
        due.counts("a hit", x, 5, 1, 2, 0, 1, 0, 2);
        x.run(1);
        due.counts("inside of a block another begins", x, 6, 2, 2, 0, 2, 0, 3);
        x.forget();
        x.run(1);
        due.counts("made anew", x, 7, 3, 2, 2, 1, 0, 5);
    }

    private static void replaces(Due due) {
        BlockRows x = new BlockRows();
        Due.write(x, 3, 0x00);
        Due.write(x, 35, 0xa0, 0x00);
        x.go(3);
        x.run(1);
        due.row("the first", x, 3, 3, 1, 1);
        x.go(35);
        x.run(1);
        due.row("the second instead", x, 3, 35, 2, 2);
        due.counts("what was instead is not thrown out", x, 1, 2, 0, 0, 1, 0, 3);
        x.poke(3, 9);
        due.counts("the first's byte is of no kept block", x, 1, 2, 0, 0, 1, 0, 3);
        x.go(3);
        x.run(1);
        due.row("the first again", x, 3, 3, 1, 1);
        due.counts("no hit", x, 1, 3, 0, 0, 1, 0, 4);
    }

    /** A STORE at 2 writes the second byte of the word behind it, or of one before it. */
    private static void writesItself(Due due) {
        BlockRows x = Due.machineAt(0, 0x10, 9, 0x50, 0x01, 0x12, 1, 0x00);
        x.set(1, 5);
        due.same("run(9)", x.run(9), 3);
        due.same("the word as written is done", x.register(2), 9);
        due.counts("writes itself", x, 3, 2, 0, 1, 1, 1, 4 + 2);
        due.row("thrown out", x, 0, -1, 0, 0);
        due.row("the rest", x, 4, 4, 2, 3);
        BlockRows before = Due.machineAt(0, 0x10, 9, 0x50, 0x01, 0x12, 1, 0x00);
        before.set(1, 1);
        due.same("run(9)", before.run(9), 3);
        due.counts("a byte before it in its block", before, 3, 2, 0, 1, 1, 1, 4 + 2);
        BlockRows same = Due.machineAt(0, 0x10, 0x12, 0x50, 0x01, 0x12, 1, 0x00);
        same.set(1, 4);
        due.same("run(9)", same.run(9), 3);
        due.counts("the same byte", same, 3, 2, 0, 1, 1, 1, 4 + 2);
        BlockRows halt = Due.machineAt(0, 0x10, 0xff, 0x50, 0x01, 0x12, 1, 0x00);
        halt.set(1, 6);
        due.same("run(9)", halt.run(9), 3);
        due.machine("a HALT that became a fault", halt, 6, 0, 0, 3);
    }

    private static void writesAnother(Due due) {
        BlockRows x = new BlockRows();
        Due.write(x, 200, 0x00);
        x.go(200);
        x.run(1);
        Due.write(x, 0, 0x50, 0x01, 0x12, 1, 0x00);
        x.set(0, 0xa0);
        x.set(1, 200);
        x.go(0);
        due.same("run(9)", x.run(9), 2);
        due.counts("its own block goes on", x, 2, 2, 0, 1, 1, 1, 1 + 3);
        due.row("the other is thrown out", x, 8, -1, 0, 0);
        due.row("its own", x, 0, 0, 3, 5);
    }

    private static void runsOutsideMemory(Due due) {
        BlockRows x = Due.machineAt(0, 0x70, 0xfd);
        due.same("run(9)", x.run(9), 1);
        due.machine("at -1", x, -1, 0, 0, 4);
        due.row("a block at -1 is kept", x, 31, -1, 1, 0);
        due.counts("a block at -1 is kept", x, 1, 2, 0, 0, 2, 0, 2);
        x.go(0);
        x.run(9);
        due.counts("and hit", x, 2, 2, 2, 0, 2, 0, 2);
        x.poke(0, 0x70);
        due.counts("it has no byte", x, 2, 2, 2, 1, 1, 0, 2);
        due.same("forget()", x.forget(), 1);
        due.row("forgotten", x, 31, -1, 0, 0);
        BlockRows far = Due.machineAt(1022, 0x70, 0x7f);
        due.same("run(9)", far.run(9), 1);
        due.machine("at 1151", far, 1151, 0, 0, 4);
        due.row("a block at 1151", far, 31, 1151, 1, 0);
        due.same("run(9)", far.run(9), 0);
    }

    private static void refuses(Due due) {
        BlockRows x = Due.machineAt(0, 0x10, 1, 0x70, 0xfc);
        String before = Due.all(x);
        for (int n : new int[] {0, -1, 101, Integer.MAX_VALUE, Integer.MIN_VALUE}) {
            due.noArgument("run(" + n + ")", () -> x.run(n));
        }
        due.unchanged("after refused runs", x, before);
        BlockRows halted = new BlockRows();
        halted.run(1);
        due.noArgument("run(0) when halted", () -> halted.run(0));
        due.noArgument("run(101) when halted", () -> halted.run(101));
    }
}
