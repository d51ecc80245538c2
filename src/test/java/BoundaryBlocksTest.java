/** The boundary cases of blocks, rows and running (the terms that promises 6, 9 and 11 use), sentence by sentence. */
public final class BoundaryBlocksTest {
    private static final String TERMS = "Terms (promises 6, 9, 11)";
    private static final int HALF = 0xa0;

    public static void main(String[] args) {
        Due due = new Due();
        due.sentence(TERMS, "A BLOCK from a place on: words one behind the other, up to 12",
                BoundaryBlocksTest::upToTwelve);
        due.sentence(TERMS,
                "ending with the first JUMP, HALT, or word that is a fault 2 or 3 (which counts as one of it)",
                BoundaryBlocksTest::endsWithTheFirst);
        due.sentence(TERMS, "its BYTES are those of its words (as far as they lie in memory).",
                BoundaryBlocksTest::bytesInMemory);
        due.sentence(TERMS, "32 ROWS keep blocks, by a place's lowest five bits.", BoundaryBlocksTest::rowsByFiveBits);
        due.sentence(TERMS, "RUNNING: at a place the row's block is taken, if it begins there (a HIT)",
                BoundaryBlocksTest::hitsIfItBeginsThere);
        due.sentence(TERMS, "else one is made and kept there, instead of what was.",
                BoundaryBlocksTest::insteadOfWhatWas);
        due.sentence(TERMS, "Its words are done in order until its end", BoundaryBlocksTest::inOrderUntilItsEnd);
        due.sentence(TERMS, "or steps are over", BoundaryBlocksTest::stepsAreOver);
        due.sentence(TERMS, "or it halts or faults", BoundaryBlocksTest::haltsOrFaults);
        due.sentence(TERMS, "or a byte of it was written by its last word", BoundaryBlocksTest::aByteOfItWasWritten);
        due.sentence(TERMS, "then it goes on at the place that there is then, as at first.",
                BoundaryBlocksTest::goesOnAtThePlaceThatThereIsThen);
        due.sentence(TERMS, "A word that is done is a step; HALT and faults are none.",
                BoundaryBlocksTest::haltAndFaultsAreNoSteps);
        due.sentence(TERMS, "all kept blocks that have this byte are THROWN OUT.",
                BoundaryBlocksTest::allKeptBlocksWithThisByte);
        due.sentence(TERMS, "When a byte is written (STORE, or by hand)", BoundaryBlocksTest::byteWrittenByHandOrStore);
        due.end();
    }

    /** Bytes that are a word of one byte each (HALF r0), with this one behind them. */
    private static int[] halves(int many, int... behind) {
        int[] program = new int[many + behind.length];
        for (int i = 0; i < many; i++) {
            program[i] = HALF;
        }
        System.arraycopy(behind, 0, program, many, behind.length);
        return program;
    }

    private static void block(Due due, int at, int words, int bytes, int... program) {
        BlockRows x = Due.machineAt(at, program);
        x.run(1);
        due.row("the block", x, at & 31, at, words, bytes);
        due.same("blocks made", x.count(1), 1);
        due.same("words decoded", x.count(6), words);
    }

    private static void upToTwelve(Due due) {
        for (int many = 0; many < 11; many++) {
            block(due, 100, many + 1, many + 1, halves(many));
        }
        block(due, 100, 12, 12, halves(11, 0x00));
        block(due, 100, 12, 12, halves(12, 0x00));
        block(due, 100, 12, 12, halves(13, 0x00));
        block(due, 100, 12, 12, halves(40));
        int[] sets = new int[40];
        java.util.Arrays.fill(sets, 0x10);
        block(due, 100, 12, 24, sets);
        block(due, 100, 12, 14, halves(10, 0x10, 1, 0x10, 1, 0x00));
        BlockRows x = Due.machineAt(100, halves(40));
        due.same("run(30)", x.run(30), 30);
        due.row("the first", x, 100 & 31, 100, 12, 12);
        due.row("the second", x, 112 & 31, 112, 12, 12);
        due.row("the third", x, 124 & 31, 124, 12, 12);
        due.counts("three blocks of 12", x, 30, 3, 0, 0, 3, 0, 36);
    }

    private static void endsWithTheFirst(Due due) {
        block(due, 100, 1, 1, 0x00, HALF);
        block(due, 100, 1, 1, 0x0f, HALF);
        block(due, 100, 1, 2, 0x70, 0x00, HALF);
        block(due, 100, 1, 1, 0xc0, HALF);
        block(due, 100, 1, 1, 0xff, HALF);
        block(due, 100, 2, 3, HALF, 0x7f, 0x00, HALF);
        block(due, 100, 2, 3, HALF, 0x75, 0x00, 0x75, 0x00);
        block(due, 100, 12, 13, halves(11, 0x70, 0x00, HALF));
        block(due, 100, 12, 12, halves(11, 0xe0, HALF));
        block(due, 1023, 1, 1, 0x10);
        block(due, 1023, 1, 1, 0x70);
        block(due, 1023, 2, 1, HALF);
        block(due, 1012, 12, 12, halves(11, 0x70));
        block(due, 1012, 12, 12, halves(12));
        block(due, 1013, 12, 11, halves(11));
        block(due, 1014, 11, 10, halves(10));
        BlockRows x = Due.machineAt(100, 0x40, 0x01, 0x51, 0x02, 0x00);
        x.set(1, -1);
        x.set(2, 1024);
        due.same("run(9)", x.run(9), 0);
        due.row("a fault 1 ends no block", x, 4, 100, 3, 5);
    }

    private static void bytesInMemory(Due due) {
        // Its place, the number of its bytes, and its program.
        int[][] blocks = {{100, 6, 0x10, 1, HALF, HALF, 0x70, 0x7f}, {0, 1, 0x00}, {0, 2, HALF, 0x00},
            {1023, 1, 0x00}, {1023, 1, 0x10}, {1023, 1, HALF}, {1022, 2, 0x10, 1}, {1021, 3, 0x10, 1, 0x10},
            {1020, 4, HALF, HALF, HALF, HALF}};
        for (int[] each : blocks) {
            int[] program = java.util.Arrays.copyOfRange(each, 2, each.length);
            int behind = each[0] + each[1];
            for (int at = Math.max(0, each[0] - 1); at <= Math.min(1023, behind); at++) {
                BlockRows x = Due.machineAt(each[0], program);
                x.run(1);
                due.same("bytes of the block at " + each[0], x.row(each[0] & 31, 2), each[1]);
                int kept = x.count(4);
                x.poke(at, x.memory(at));
                due.same("kept behind a poke at " + at, x.count(4), at < each[0] || at >= behind ? kept : kept - 1);
            }
        }
        // A word at a place outside memory has none, and so nothing that is written throws it out.
        for (int[] jump : new int[][] {{0, 0xfd, -1}, {0, 0x80, -126}, {1022, 0x00, 1024}, {1022, 0x7f, 1151}}) {
            BlockRows x = Due.machineAt(jump[0], 0x70, jump[1]);
            x.run(9);
            for (int at : new int[] {2, 3, 31, 32, 898, 1020, 1021}) {
                x.poke(at, 1);
            }
            due.row("at " + jump[2], x, jump[2] & 31, jump[2], 1, 0);
            due.same("kept", x.count(4), 2);
            x.pokeFour(0, 0);
            x.pokeFour(1020, 0);
            due.row("at " + jump[2], x, jump[2] & 31, jump[2], 1, 0);
            due.same("kept, but for the JUMP's", x.count(4), 1);
        }
    }

    private static void rowsByFiveBits(Due due) {
        for (int place : new int[] {0, 1, 31, 32, 33, 63, 64, 511, 512, 992, 1022, 1023}) {
            BlockRows x = new BlockRows();
            x.go(place);
            x.run(1);
            for (int k = 0; k < 32; k++) {
                due.same("a block at " + place + ": row(" + k + ", 0)", x.row(k, 0), k == place % 32 ? place : -1);
            }
        }
        int[][] outside = {{0, 0xfd, -1, 31}, {0, 0xfc, -2, 30}, {0, 0x80, -126, 2}, {1022, 0x00, 1024, 0},
            {1022, 0x01, 1025, 1}, {1022, 0x7f, 1151, 31}};
        for (int[] jump : outside) {
            BlockRows x = Due.machineAt(jump[0], 0x70, jump[1]);
            x.run(9);
            due.row("a block at " + jump[2], x, jump[3], jump[2], 1, 0);
        }
        BlockRows full = new BlockRows();
        for (int place = 0; place < 64; place++) {
            full.go(place);
            full.run(1);
            due.same("kept: no more than there are rows", full.count(4), Math.min(place + 1, 32));
        }
        for (int k = 0; k < 32; k++) {
            due.same("row(" + k + ", 0)", full.row(k, 0), 32 + k);
        }
    }

    private static void hitsIfItBeginsThere(Due due) {
        BlockRows x = Due.machineAt(100, halves(3, 0x00));
        x.run(9);
        due.counts("the first time", x, 3, 1, 0, 0, 1, 0, 4);
        x.go(100);
        x.run(9);
        due.counts("the second time", x, 6, 1, 1, 0, 1, 0, 4);
        x.go(101);
        x.run(9);
        due.counts("a place inside of a block is not its begin", x, 8, 2, 1, 0, 2, 0, 7);
        x.go(132);
        x.run(9);
        due.counts("another place of the same row", x, 8, 3, 1, 0, 2, 0, 8);
        x.go(100);
        x.run(9);
        due.counts("what was there has gone", x, 11, 4, 1, 0, 2, 0, 12);
        BlockRows below = Due.machineAt(0, 0x70, 0xfd);
        below.run(1);
        below.run(1);
        due.counts("a first block at -1 is no hit of a row without a block", below, 1, 2, 0, 0, 2, 0, 2);
        below.go(0);
        below.run(9);
        due.counts("a block at -1 is hit too", below, 2, 2, 2, 0, 2, 0, 2);
        BlockRows at0 = new BlockRows();
        at0.run(1);
        due.counts("a first block at 0 is no hit of a row without a block", at0, 0, 1, 0, 0, 1, 0, 1);
        at0.forget();
        at0.go(0);
        at0.run(1);
        due.counts("nor behind forget()", at0, 0, 2, 0, 1, 1, 0, 2);
    }

    private static void insteadOfWhatWas(Due due) {
        BlockRows x = Due.machineAt(5, HALF, 0x00);
        Due.write(x, 37, 0x10, 1, 0x00);
        x.run(9);
        due.row("the first", x, 5, 5, 2, 2);
        x.go(37);
        x.run(9);
        due.row("the second", x, 5, 37, 2, 3);
        due.counts("one is kept, and none was thrown out", x, 2, 2, 0, 0, 1, 0, 4);
        x.poke(5, 0);
        due.counts("a byte of the first is of no kept block", x, 2, 2, 0, 0, 1, 0, 4);
        x.poke(39, 0);
        due.counts("a byte of the second is", x, 2, 2, 0, 1, 0, 0, 4);
        // A JUMP from 0 to 32 and back: each block takes the other's row.
        BlockRows two = Due.machineAt(0, 0x70, 30);
        Due.write(two, 32, 0x70, 0xde);
        due.same("run(100)", two.run(100), 100);
        due.counts("a hundred blocks in one row", two, 100, 100, 0, 0, 1, 0, 100);
    }

    private static void inOrderUntilItsEnd(Due due) {
        // r0 is 1, doubled and then one more: the other order would be 4, not 3.
        BlockRows x = Due.machineAt(0, 0x10, 1, 0x11, 1, 0x20, 0x00, 0x20, 0x01, 0x00);
        due.same("run(100)", x.run(100), 4);
        due.same("in order", x.register(0), 3);
        BlockRows full = Due.machineAt(0, halves(13, 0x00));
        due.same("run(100)", full.run(100), 13);
        due.machine("12 words, and from behind them on", full, 13, 1, 0, 1);
        due.counts("two blocks", full, 13, 2, 0, 0, 2, 0, 12 + 2);
        BlockRows jump = Due.machineAt(0, HALF, 0x7f, 0x00, 0x00);
        due.same("run(100)", jump.run(100), 2);
        due.counts("behind a JUMP that does not hold another begins", jump, 2, 2, 0, 0, 2, 0, 3);
    }

    private static void stepsAreOver(Due due) {
        for (int n = 1; n <= 25; n++) {
            BlockRows x = Due.machineAt(0, halves(24, 0x00));
            due.same("run(" + n + ")", x.run(n), Math.min(n, 24));
            due.machine("behind " + n + " steps", x, Math.min(n, 24), 1, 0, n < 25 ? 0 : 1);
            int made = n <= 12 ? 1 : n <= 24 ? 2 : 3;
            due.counts("no block is looked for when steps are over", x, Math.min(n, 24), made, 0, 0, made, 0,
                    Math.min(12 * made, 25));
        }
        BlockRows halt = Due.machineAt(0, HALF, 0x00);
        due.same("run(1)", halt.run(1), 1);
        due.machine("the HALT behind the last step is not come to", halt, 1, 1, 0, 0);
        BlockRows fault = Due.machineAt(0, HALF, 0xf0);
        due.same("run(1)", fault.run(1), 1);
        due.machine("nor is a fault", fault, 1, 1, 0, 0);
        BlockRows last = Due.machineAt(1023, HALF);
        due.same("run(1)", last.run(1), 1);
        due.machine("nor is memory's end", last, 1024, 1, 0, 0);
        due.same("run(1)", last.run(1), 0);
        due.machine("a place outside memory", last, 1024, 1, 0, 4);
        due.counts("by a block of its own", last, 1, 2, 0, 0, 2, 0, 3);
    }

    private static void haltsOrFaults(Due due) {
        BlockRows x = Due.machineAt(0, HALF, 0x41, 0x02, 0x13, 9, 0x00);
        x.set(2, 1024);
        due.same("run(100)", x.run(100), 1);
        due.machine("a fault 1 inside of a block", x, 1, 1, 0, 2);
        due.same("the word behind it is not done", x.register(3), 0);
        x.set(2, 1023);
        x.go(1);
        due.same("run(100)", x.run(100), 2);
        due.machine("no fault any more", x, 5, 1, 0, 1);
        due.counts("a block from the fault's place on", x, 3, 2, 0, 0, 2, 0, 4 + 3);
    }

    /** A STORE at 104, in the block 102 .. 107 of four words, of r0 at r1. */
    private static BlockRows stores(int at, int v) {
        BlockRows x = Due.machineAt(102, HALF | 7, HALF | 7, 0x50, 0x01, HALF | 7, 0x00);
        x.set(0, v);
        x.set(1, at);
        return x;
    }

    private static void aByteOfItWasWritten(Due due) {
        for (int at = 100; at < 110; at++) {
            BlockRows probe = stores(at, 0);
            int v = probe.memory(at);
            boolean own = at >= 102 && at <= 107;
            for (int steps = 3; steps <= 5; steps++) {
                BlockRows x = stores(at, v);
                String when = "STORE of the same at " + at + ", run(" + steps + ")";
                due.same(when, x.run(steps), Math.min(steps, 4));
                int rest = own && steps > 3 ? 1 : 0;
                due.counts(when, x, Math.min(steps, 4), 1 + rest, 0, own ? 1 : 0, own ? rest : 1, 1, 5 + 2 * rest);
                due.row(when, x, 6, own ? new int[] {-1, 0, 0} : new int[] {102, 5, 6});
                due.row(when, x, 10, rest == 1 ? new int[] {106, 2, 2} : new int[] {-1, 0, 0});
            }
        }
        // The twelfth word of a block writes a byte of it, or one behind it.
        for (int at = 210; at <= 213; at++) {
            BlockRows x = Due.machineAt(200, halves(11, 0x51, 0x02, 0x00));
            x.set(1, at == 213 ? 0xd0 : 0x00);
            x.set(2, at);
            x.run(12);
            due.same("thrown out by its twelfth word at " + at, x.count(3), at < 213 ? 1 : 0);
            due.same("run(1)", x.run(1), 0);
            due.same("the state", x.register(11), at < 213 ? 1 : 3);
        }
        BlockRows last = Due.machineAt(1021, 0x50, 0x01, HALF);
        last.set(1, 1023);
        last.set(0, 0x0f);
        due.same("run(9)", last.run(9), 1);
        due.machine("memory's last byte became a HALT", last, 1023, 0, 0, 1);
        due.same("thrown out", last.count(3), 1);
    }

    private static void goesOnAtThePlaceThatThereIsThen(Due due) {
        BlockRows halt = stores(106, 0x00);
        due.same("run(9)", halt.run(9), 3);
        due.machine("the word behind became a HALT", halt, 106, 1, 0, 1);
        BlockRows fault = stores(106, 0xc0);
        due.same("run(9)", fault.run(9), 3);
        due.machine("the word behind became a fault 2", fault, 106, 1, 0, 3);
        BlockRows set = stores(106, 0x17);
        set.poke(107, 0x00);
        due.same("run(9)", set.run(9), 4);
        due.machine("the word behind became one of two bytes", set, 108, 1, 0, 1);
        BlockRows more = stores(107, HALF | 7);
        due.same("run(9)", more.run(9), 5);
        due.machine("the HALT became a HALF", more, 108, 1, 0, 1);
        BlockRows itself = stores(104, 0x00);
        due.same("run(9)", itself.run(9), 4);
        due.machine("a STORE that writes itself is done, and the words behind it", itself, 107, 1, 0, 1);
        itself.go(104);
        due.same("run(9)", itself.run(9), 0);
        due.machine("it is a HALT from then on", itself, 104, 1, 0, 1);
        // SET r2 9 at 0, STORE r0 at r1 (the 9 there), JUMP back to 0: 33 turns and a step. The block at 0 is
        // made in each of 34 turns, that of the JUMP at 4 in the first one.
        BlockRows loop = Due.machineAt(0, 0x12, 9, 0x50, 0x01, 0x70, 0xfa);
        loop.set(0, 77);
        loop.set(1, 1);
        due.same("run(100)", loop.run(100), 100);
        due.same("the written word is done", loop.register(2), 77);
        due.counts("a hundred steps", loop, 100, 34 + 1, 32, 33, 2, 33, 34 * 3 + 1);
    }

    private static void haltAndFaultsAreNoSteps(Due due) {
        int[][] ends = {{0x00, 0x00}, {0x41, 0x02}, {0x51, 0x02}, {0xc0, 0x00}, {0xff, 0x00}};
        for (int[] end : ends) {
            BlockRows x = Due.machineAt(0, HALF, end[0], end[1]);
            x.set(2, -1);
            due.same("run(100) to first byte " + end[0], x.run(100), 1);
            due.same("steps", x.count(0), 1);
            due.same("run(100) again", x.run(100), 0);
            due.same("steps", x.count(0), 1);
        }
        BlockRows three = Due.machineAt(1022, HALF, 0x10);
        due.same("run(100) to a fault 3", three.run(100), 1);
        due.same("steps", three.count(0), 1);
        for (int[] word : new int[][] {{0x10, 0}, {0x20, 0}, {0x30, 0}, {0x40, 0}, {0x50, 0}, {0x60, 0}, {0x70, 0},
            {0x7f, 0}, {0x80, 0}, {0x90, 0}, {0xa0, 0}, {0xb0, 0}}) {
            BlockRows x = Due.machineAt(100, word);
            due.same("run(100) from first byte " + word[0] + " to a HALT", x.run(100), 1);
            due.same("steps", x.count(0), 1);
            due.same("the state", x.register(11), 1);
        }
    }

    /** Bytes 0 to 59 are 0x10, so a block of 12 words and 24 bytes begins at every place from 0 to 23. */
    private static BlockRows overlapping() {
        BlockRows x = new BlockRows();
        for (int at = 0; at < 60; at += 4) {
            x.pokeFour(at, 0x10101010);
        }
        for (int place = 0; place < 24; place++) {
            x.go(place);
            x.run(1);
        }
        return x;
    }

    private static void allKeptBlocksWithThisByte(Due due) {
        for (int at = 0; at < 50; at++) {
            BlockRows x = overlapping();
            due.same("kept", x.count(4), 24);
            x.poke(at, 0x10);
            int out = 0;
            for (int k = 0; k < 24; k++) {
                boolean has = k <= at && at < k + 24;
                due.row("poke at " + at, x, k, has ? new int[] {-1, 0, 0} : new int[] {k, 12, 24});
                out += has ? 1 : 0;
            }
            due.same("thrown out by a poke at " + at, x.count(3), out);
            due.same("kept behind a poke at " + at, x.count(4), 24 - out);
            x.poke(at, 0x10);
            due.same("none is thrown out twice", x.count(3), out);
        }
        BlockRows all = overlapping();
        all.poke(23, 0x10);
        due.counts("all 24 at once", all, 24, 24, 0, 24, 0, 0, 24 * 12);
        BlockRows four = overlapping();
        four.pokeFour(45, 0x10101010);
        due.counts("pokeFour throws out two", four, 24, 24, 0, 2, 22, 0, 24 * 12);
        four.pokeFour(42, 0x10101010);
        due.counts("and three more", four, 24, 24, 0, 5, 19, 0, 24 * 12);
    }

    private static void byteWrittenByHandOrStore(Due due) {
        for (int at = 0; at < 50; at++) {
            BlockRows x = overlapping();
            // Row 28 is that of the STORE's own block.
            Due.write(x, 700, 0x50, 0x01, 0x00);
            x.set(0, 0x10);
            x.set(1, at);
            x.go(700);
            due.same("run(9)", x.run(9), 1);
            int out = Math.max(0, Math.min(at, 23) - Math.max(0, at - 23) + 1);
            due.counts("STORE at " + at, x, 25, 25, 0, out, 25 - out, 1, 24 * 12 + 2);
            due.row("its own goes on", x, 28, 700, 2, 3);
        }
        for (int at = 1016; at < 1024; at++) {
            BlockRows x = Due.machineAt(1021, 0x00, 0x00, 0x00);
            for (int place = 1021; place < 1024; place++) {
                x.go(place);
                x.run(1);
            }
            x.pokeFour(at, 0);
            int kept = Math.max(0, Math.min(3, at - 1021)) + Math.max(0, Math.min(3, 1020 - at));
            due.same("kept behind pokeFour(" + at + ", 0)", x.count(4), kept);
            due.same("thrown out by pokeFour(" + at + ", 0)", x.count(3), 3 - kept);
        }
    }
}
