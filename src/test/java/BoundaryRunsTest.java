/** The boundary cases of promises 6, 9, 10 and 11 and of an object's 512 calls, sentence by sentence. */
public final class BoundaryRunsTest {
    private static final int MIN = Integer.MIN_VALUE;
    private static final int MAX = Integer.MAX_VALUE;

    public static void main(String[] args) {
        Due due = new Due();
        due.sentence("Promise 6", "So many steps (1 .. 100), as long as it runs: how many were done.",
                BoundaryRunsTest::soManySteps);
        due.sentence("Promise 6", "IllegalArgumentException, when n is none of these.", BoundaryRunsTest::noneOfThese);
        due.sentence("Promise 9",
                "Of a row the place of its block (what 0; NONE without), its words (1), bytes (2; 0 without).",
                BoundaryRunsTest::ofARow);
        due.sentence("Promise 9", "IndexOutOfBoundsException, when there is no such row or what.",
                BoundaryRunsTest::noSuchRowOrWhat);
        due.sentence("Terms (promises 9, 11)", "`NONE = -1`: Nothing there.", BoundaryRunsTest::nothingThere);
        due.sentence("Promise 10", "Throws out all blocks: how many there were.", BoundaryRunsTest::throwsOutAll);
        due.sentence("Promise 11",
                "Steps so far (0), blocks made (1), hits (2), thrown out (3; also by forget()), kept now (4), "
                        + "bytes written by STORE (5), words decoded (6; of blocks made).",
                BoundaryRunsTest::counts);
        due.sentence("Promise 11", "NONE for another what.", BoundaryRunsTest::anotherWhat);
        due.sentence("What it is (all promises)", "An object is used for at most 512 calls after it has been made",
                BoundaryRunsTest::fiveHundredAndTwelveCalls);
        due.end();
    }

    private static void soManySteps(Due due) {
        for (int n : new int[] {1, 2, 99, 100}) {
            BlockRows x = Due.machineAt(0, 0x70, 0xfe);
            due.same("run(" + n + ") without an end", x.run(n), n);
            due.counts("run(" + n + ")", x, n, 1, n - 1, 0, 1, 0, 1);
            due.machine("run(" + n + ")", x, 0, 0, 0, 0);
        }
        // As many SETs as steps, or one less or more, before the HALT.
        for (int sets = 98; sets <= 102; sets++) {
            BlockRows x = new BlockRows();
            for (int i = 0; i < sets; i++) {
                x.poke(2 * i, 0x10);
            }
            due.same("run(100) of " + sets, x.run(100), Math.min(sets, 100));
            due.machine("run(100) of " + sets, x, 2 * Math.min(sets, 100), 0, 0, sets < 100 ? 1 : 0);
        }
        BlockRows halted = new BlockRows();
        due.same("run(1) at a HALT", halted.run(1), 0);
        due.same("run(1) when halted", halted.run(1), 0);
        due.same("run(100) when halted", halted.run(100), 0);
        due.counts("run when halted looks for no block", halted, 0, 1, 0, 0, 1, 0, 1);
        BlockRows parts = Due.machineAt(0, 0x70, 0xfe);
        for (int call = 0; call < 100; call++) {
            due.same("run(1)", parts.run(1), 1);
        }
        due.counts("a hundred times one step", parts, 100, 1, 99, 0, 1, 0, 1);
    }

    private static void noneOfThese(Due due) {
        int[] wrong = {0, -1, -100, 101, 102, 256 + 1, 65536 + 1, MIN, MIN + 1, MAX};
        BlockRows running = Due.machineAt(0, 0x10, 1, 0x70, 0xfc);
        running.run(3);
        BlockRows twin = Due.machineAt(0, 0x10, 1, 0x70, 0xfc);
        twin.run(3);
        BlockRows halted = Due.worn();
        for (int n : wrong) {
            due.noArgument("run(" + n + ")", () -> running.run(n));
            due.noArgument("run(" + n + ") when halted", () -> halted.run(n));
        }
        due.alike("a refused run", running, twin);
        due.alike("a refused run when halted", halted, Due.worn());
    }

    private static void ofARow(Due due) {
        BlockRows x = new BlockRows();
        due.row("the first row without", x, 0, -1, 0, 0);
        due.row("the last row without", x, 31, -1, 0, 0);
        x.run(1);
        x.go(1023);
        x.run(1);
        due.row("the first row", x, 0, 0, 1, 1);
        due.row("the last row", x, 31, 1023, 1, 1);
        due.row("a row between", x, 1, -1, 0, 0);
        x.poke(0, 0);
        due.row("thrown out by hand", x, 0, -1, 0, 0);
        due.row("the last row stays", x, 31, 1023, 1, 1);
        x.forget();
        due.row("thrown out by forget()", x, 31, -1, 0, 0);
        int[] most = new int[24];
        java.util.Arrays.fill(most, 0x1f);
        BlockRows full = Due.machineAt(96, most);
        full.run(1);
        due.row("the most words and bytes", full, 0, 96, 12, 24);
        BlockRows below = Due.machineAt(0, 0x70, 0xfd);
        below.run(9);
        due.row("a block at -1 has a word and no byte", below, 31, -1, 1, 0);
        BlockRows outside = Due.machineAt(1022, 0x70, 0x01);
        outside.run(9);
        due.row("a block at 1025", outside, 1, 1025, 1, 0);
    }

    private static void noSuchRowOrWhat(Due due) {
        BlockRows x = Due.worn();
        for (int k : new int[] {-1, -32, 32, 33, 64, 1023, MIN, MAX}) {
            for (int what = 0; what <= 2; what++) {
                int asked = what;
                due.noIndex("row(" + k + ", " + what + ")", () -> x.row(k, asked));
            }
        }
        for (int what : new int[] {-1, 3, 4, 256, MIN, MAX}) {
            due.noIndex("row(0, " + what + ")", () -> x.row(0, what));
            due.noIndex("row(1, " + what + "), which keeps a block", () -> x.row(1, what));
            due.noIndex("row(31, " + what + ")", () -> x.row(31, what));
            due.noIndex("row(32, " + what + ")", () -> x.row(32, what));
        }
        due.alike("a refused row", x, Due.worn());
    }

    private static void nothingThere(Due due) {
        due.same("NONE", BlockRows.NONE, -1);
        BlockRows x = new BlockRows();
        due.same("row(0, 0)", x.row(0, 0), BlockRows.NONE);
        due.same("count(7)", x.count(7), BlockRows.NONE);
    }

    private static void throwsOutAll(Due due) {
        BlockRows x = new BlockRows();
        due.same("forget() of none", x.forget(), 0);
        due.counts("none", x, 0, 0, 0, 0, 0, 0, 0);
        for (int many : new int[] {1, 2, 31, 32}) {
            BlockRows y = new BlockRows();
            for (int k = 0; k < many; k++) {
                y.go(1023 - k);
                y.run(1);
            }
            due.same("forget() of " + many, y.forget(), many);
            due.counts("forget() of " + many, y, 0, many, 0, many, 0, 0, many);
            for (int k = 0; k < 32; k++) {
                due.row("forgotten", y, k, -1, 0, 0);
            }
            due.same("forget() again", y.forget(), 0);
            due.same("thrown out", y.count(3), many);
            y.go(1023);
            y.run(1);
            due.counts("made again, no hit", y, 0, many + 1, 0, many, 1, 0, many + 1);
            due.same("forget() of the new one", y.forget(), 1);
        }
        BlockRows outside = Due.machineAt(0, 0x70, 0xfd);
        outside.run(9);
        due.same("forget(), also of a block at -1 without bytes", outside.forget(), 2);
        due.counts("forget() leaves the rest", outside, 1, 2, 0, 2, 0, 0, 2);
        due.machine("forget() leaves the rest", outside, -1, 0, 0, 4);
        due.same("memory stays", outside.memory(0), 0x70);
        BlockRows within = Due.machineAt(0, 0xa0, 0xa0, 0xa0, 0x00);
        within.run(1);
        due.same("forget() inside of a block", within.forget(), 1);
        due.same("run(9) goes on there", within.run(9), 2);
        due.row("a block from there on", within, 1, 1, 3, 3);
    }

    private static void counts(Due due) {
        BlockRows x = Due.machineAt(0, 0x50, 0x01, 0x70, 0xfc);
        due.counts("bytes by hand are none by STORE", x, 0, 0, 0, 0, 0, 0, 0);
        x.set(1, 900);
        x.run(1);
        due.counts("one STORE", x, 1, 1, 0, 0, 1, 1, 2);
        x.run(1);
        due.counts("a block of one word", x, 2, 2, 0, 0, 2, 1, 3);
        x.run(2);
        due.counts("a hit", x, 4, 2, 1, 0, 2, 2, 3);
        x.poke(0, 0x50);
        due.counts("one thrown out by hand", x, 4, 2, 1, 1, 1, 2, 3);
        x.run(1);
        due.counts("made again", x, 5, 3, 1, 1, 2, 3, 5);
        x.forget();
        due.counts("two thrown out by forget()", x, 5, 3, 1, 3, 0, 3, 5);
        x.set(1, 1024);
        x.go(0);
        x.run(1);
        due.counts("a STORE that faults writes nothing", x, 5, 4, 1, 3, 1, 3, 7);
        x.set(1, 0);
        x.go(0);
        x.run(1);
        due.counts("a hit, one thrown out by STORE", x, 6, 4, 2, 4, 0, 4, 7);
        x.go(700);
        x.run(1);
        x.go(732);
        x.run(1);
        due.counts("two made in one row, of which one is kept", x, 6, 6, 2, 4, 1, 4, 9);
    }

    private static void anotherWhat(Due due) {
        BlockRows x = Due.worn();
        for (int what : new int[] {-1, -2, 7, 8, 16, 256, MIN, MAX}) {
            due.same("count(" + what + ")", x.count(what), -1);
        }
        due.alike("a count of nothing", x, Due.worn());
        BlockRows y = Due.worn();
        due.same("count(0), the first", y.count(0), 9);
        due.same("count(6), the last", y.count(6), 10);
    }

    private static void fiveHundredAndTwelveCalls(Due due) {
        BlockRows x = new BlockRows();
        due.same("the first call", x.pokeFour(0, 0x70fe0000), 4);
        for (int call = 2; call < 512; call++) {
            due.same("call " + call, x.run(100), 100);
        }
        due.same("the 512th call", x.count(0), 51000);
        // SET, STORE into the SET's second byte, JUMP back: a block is thrown out and made again in each turn.
        BlockRows y = new BlockRows();
        y.pokeFour(0, 0x12095001);
        y.pokeFour(4, 0x70fa0000);
        y.set(0, 77);
        y.set(1, 1);
        for (int call = 5; call < 512; call++) {
            due.same("call " + call, y.run(100), 100);
        }
        due.same("the 512th call", y.count(5), 507 * 100 / 3);
    }
}
