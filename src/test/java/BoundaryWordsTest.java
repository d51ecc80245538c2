/** The boundary cases of words and flags (the terms that promise 6 uses), sentence by sentence. */
public final class BoundaryWordsTest {
    private static final int MIN = Integer.MIN_VALUE;
    private static final int MAX = Integer.MAX_VALUE;
    private static final String TERMS = "Terms (promise 6)";

    public static void main(String[] args) {
        Due due = new Due();
        due.sentence("Terms (promises 6, 8)", "FLAGS Z and N (0 at first)", BoundaryWordsTest::flagsAtFirst);
        due.sentence("Terms (promises 6, 8)", "a PLACE (0 at first)", BoundaryWordsTest::placeAtFirst);
        due.sentence(TERMS, "A WORD has one byte or two", BoundaryWordsTest::oneByteOrTwo);
        due.sentence(TERMS, "its KIND is the first byte's highest four bits", BoundaryWordsTest::kindsEdges);
        due.sentence(TERMS, "r its lowest three (bit 3 does not matter, but in 7)", BoundaryWordsTest::bitThree);
        due.sentence(TERMS, "s the second byte's lowest three bits", BoundaryWordsTest::lowestThreeBitsOfTheSecond);
        due.sentence(TERMS, "n the second byte, below 0 when its highest bit is 1", BoundaryWordsTest::nBelowZero);
        due.sentence(TERMS, "0 HALT (one byte).", BoundaryWordsTest::haltOfOneByte);
        due.sentence(TERMS, "1 SET r is n.", BoundaryWordsTest::setsAllBits);
        due.sentence(TERMS, "2 ADD r is r + s.", BoundaryWordsTest::adds);
        due.sentence(TERMS, "3 SUB r is r - s.", BoundaryWordsTest::subtracts);
        due.sentence(TERMS, "4 LOAD r is the byte at s (0 .. 255).", BoundaryWordsTest::loadsFromNothingToAll);
        due.sentence(TERMS, "5 STORE the byte at s is r's lowest eight bits.",
                BoundaryWordsTest::storesLowestEightBits);
        due.sentence(TERMS, "6 AND r is r & s.", BoundaryWordsTest::ands);
        due.sentence(TERMS, "the lowest four bits: 0 always, 1 Z, 2 not Z, 3 N, 4 not N; others never",
                BoundaryWordsTest::jumpConditions);
        due.sentence(TERMS, "holds, the place is that behind the word and n more.", BoundaryWordsTest::jumpDistances);
        due.sentence(TERMS, "8 MOVE r is s.", BoundaryWordsTest::moves);
        due.sentence(TERMS, "9 MUL r is r * s.", BoundaryWordsTest::multiplies);
        due.sentence(TERMS, "10 HALF (one byte) r is r / 2 rounded down.", BoundaryWordsTest::halvesRoundedDown);
        due.sentence(TERMS, "11 COMPARE r - s, of which nothing is kept but flags.",
                BoundaryWordsTest::comparesAndKeepsNothing);
        due.sentence(TERMS, "(s: register s's number.)", BoundaryWordsTest::oneRegisterTwice);
        due.sentence(TERMS, "2, 3, 6, 9, 10, 11 set flags: Z 1 when the result is 0, N 1 when it is below 0, else 0.",
                BoundaryWordsTest::flagsAtTheirEdges);
        due.sentence(TERMS, "2, 3, 6, 9, 10, 11 set flags", BoundaryWordsTest::noFlags);
        due.sentence(TERMS, "Sums, differences and products have 32 bits.", BoundaryWordsTest::thirtyTwoBits);
        due.end();
    }

    /** A machine that has done the one word at 0, with these numbers in registers r and s. */
    private static BlockRows done(int first, int second, int a, int b) {
        BlockRows x = Due.machineAt(0, first, second);
        x.set(second & 7, b);
        x.set(first & 7, a);
        x.run(1);
        return x;
    }

    /** Kind with r = 1 and s = 6. */
    private static BlockRows done(int kind, int a, int b) {
        return done(kind << 4 | 1, 6, a, b);
    }

    private static int z(int result) {
        return result == 0 ? 1 : 0;
    }

    private static int n(int result) {
        return result < 0 ? 1 : 0;
    }

    private static void flagsAtFirst(Due due) {
        BlockRows x = new BlockRows();
        due.same("register(9)", x.register(9), 0);
        due.same("register(10)", x.register(10), 0);
        int[] places = {7, 2, 7, 2, 7};
        for (int condition = 0; condition < places.length; condition++) {
            BlockRows first = Due.machineAt(0, 0x70 | condition, 5);
            due.same("run(1)", first.run(1), 1);
            due.machine("a first JUMP on condition " + condition, first, places[condition], 0, 0, 0);
        }
    }

    private static void placeAtFirst(Due due) {
        BlockRows x = new BlockRows();
        due.same("register(8)", x.register(8), 0);
        x.poke(0, 0x13);
        x.poke(1, 9);
        due.same("run(1) without go", x.run(1), 1);
        due.same("the word at 0 is done", x.register(3), 9);
    }

    private static void oneByteOrTwo(Due due) {
        // Behind it stand HALT, HALF, HALT: HALF is a word of the block only behind a word of two bytes.
        int[] blockBytes = {1, 4, 4, 4, 4, 4, 4, 2, 4, 4, 2, 4, 1, 1, 1, 1};
        int[] places = {0, 2, 2, 2, 2, 2, 2, 2, 2, 2, 1, 2, 0, 0, 0, 0};
        for (int kind = 0; kind < 16; kind++) {
            BlockRows x = Due.machineAt(0, kind << 4, 0x00, 0xa0, 0x00);
            x.set(0, 900);
            x.run(1);
            due.same("bytes of a block from kind " + kind + " on", x.row(0, 2), blockBytes[kind]);
            due.same("the place behind kind " + kind, x.register(8), places[kind]);
        }
    }

    /** A word of r = 1 and s = 6, of each pair's first two, and the third is due. */
    private static void worked(Due due, int kind, int[][] edges) {
        for (int[] edge : edges) {
            BlockRows x = done(kind, edge[0], edge[1]);
            String call = "kind " + kind + " of " + edge[0] + ", " + edge[1];
            due.same(call, x.register(1), edge[2]);
            due.same(call + ": s stays", x.register(6), edge[1]);
            due.same(call + ": place", x.register(8), 2);
            due.same(call + ": state", x.register(11), 0);
        }
    }

    private static void adds(Due due) {
        worked(due, 2, new int[][] {{0, 0, 0}, {0, -1, -1}, {-1, 0, -1}, {MAX, 0, MAX}, {MIN, 0, MIN}, {MAX, MIN, -1},
            {MAX - 1, 1, MAX}, {MIN + 1, -1, MIN}, {255, 1, 256}, {65535, 1, 65536}});
    }

    private static void subtracts(Due due) {
        worked(due, 3, new int[][] {{0, 0, 0}, {0, 1, -1}, {1, 0, 1}, {0, MAX, MIN + 1}, {-1, MAX, MIN}, {-1, MIN, MAX},
            {MAX, MAX, 0}, {256, 1, 255}, {-65536, 1, -65537}});
    }

    private static void ands(Due due) {
        worked(due, 6, new int[][] {{0, 0, 0}, {-1, 0, 0}, {0, -1, 0}, {-1, -1, -1}, {MIN, MAX, 0}, {MIN, -1, MIN},
            {MAX, -1, MAX}, {-256, 511, 256}, {0x55555555, 0x66666666, 0x44444444}});
    }

    private static void moves(Due due) {
        worked(due, 8, new int[][] {{7, 0, 0}, {0, -1, -1}, {-1, MIN, MIN}, {MIN, MAX, MAX}, {0, 256, 256},
            {5, 1024, 1024}});
    }

    private static void multiplies(Due due) {
        worked(due, 9, new int[][] {{0, 0, 0}, {0, MIN, 0}, {1, MIN, MIN}, {-1, MAX, MIN + 1}, {-1, 1, -1},
            {46340, 46340, 2147395600}, {-3, -5, 15}, {256, 256, 65536}, {MAX, 1, MAX}});
    }

    private static void kindsEdges(Due due) {
        // First byte, place, state and register 0 or 7 behind one step from r0 = 6, r7 = 7, second byte 7.
        int[][] edges = {{0x00, 0, 1, 6, 7}, {0x0f, 0, 1, 6, 7}, {0x10, 2, 0, 7, 7}, {0x1f, 2, 0, 6, 7},
            {0x20, 2, 0, 13, 7}, {0x2f, 2, 0, 6, 14}, {0x30, 2, 0, -1, 7}, {0x3f, 2, 0, 6, 0},
            {0x60, 2, 0, 6, 7}, {0x6f, 2, 0, 6, 7}, {0x70, 9, 0, 6, 7}, {0x7f, 2, 0, 6, 7},
            {0x80, 2, 0, 7, 7}, {0x8f, 2, 0, 6, 7}, {0x90, 2, 0, 42, 7}, {0x9f, 2, 0, 6, 49},
            {0xa0, 1, 0, 3, 7}, {0xaf, 1, 0, 6, 3}, {0xb0, 2, 0, 6, 7}, {0xbf, 2, 0, 6, 7},
            {0xc0, 0, 3, 6, 7}, {0xcf, 0, 3, 6, 7}, {0xff, 0, 3, 6, 7}};
        for (int[] edge : edges) {
            BlockRows x = Due.machineAt(0, edge[0], 7);
            x.set(0, 6);
            x.set(7, 7);
            String word = "first byte " + edge[0];
            due.same(word + ": run(1)", x.run(1), edge[2] == 0 ? 1 : 0);
            due.same(word + ": place", x.register(8), edge[1]);
            due.same(word + ": state", x.register(11), edge[2]);
            due.same(word + ": register(0)", x.register(0), edge[3]);
            due.same(word + ": register(7)", x.register(7), edge[4]);
        }
        due.machine("AND 0x6f, no JUMP", done(0x6f, 7, 0, 0), 2, 1, 0, 0);
        due.machine("JUMP 0x7f, no AND", done(0x7f, 7, 0, 0), 2, 0, 0, 0);
        due.machine("COMPARE 0xbf", done(0xbf, 7, 0, 0), 2, 1, 0, 0);
        due.same("LOAD 0x40", done(0x40, 7, 6, 0).register(0), 0x40);
        due.same("LOAD 0x4e", done(0x4e, 7, 6, 0).register(6), 0x4e);
        due.same("STORE 0x50", done(0x50, 7, 6, 99).memory(99), 6);
        due.same("STORE 0x5e", done(0x5e, 7, 6, 99).memory(99), 6);
    }

    private static void bitThree(Due due) {
        for (int kind : new int[] {1, 2, 3, 4, 6, 8, 9, 10}) {
            for (int r = 0; r < 7; r++) {
                BlockRows without = done(kind << 4 | r, 7, 12, 5);
                BlockRows with = done(kind << 4 | 8 | r, 7, 12, 5);
                for (int other = 0; other < 12; other++) {
                    due.same("kind " + kind + ", r " + r + ": register(" + other + ")", with.register(other),
                            without.register(other));
                }
                due.same("kind " + kind + ", r " + r + " is changed (1)", with.register(r) == 12 ? 0 : 1, 1);
            }
        }
        for (int r = 0; r < 7; r++) {
            due.same("STORE with bit 3", done(0x58 | r, 7, 12, 99).memory(99), 12);
            BlockRows compared = done(0xb8 | r, 7, 5, 5);
            due.machine("COMPARE with bit 3", compared, 2, 1, 0, 0);
        }
        due.machine("JUMP 0 holds", done(0x70, 0x10, 0, 0), 18, 0, 0, 0);
        due.machine("in JUMP bit 3 matters: 8 is not 0", done(0x78, 0x10, 0, 0), 2, 0, 0, 0);
        due.machine("JUMP 2 holds", done(0x72, 0x10, 0, 0), 18, 0, 0, 0);
        due.machine("10 is not 2", done(0x7a, 0x10, 0, 0), 2, 0, 0, 0);
        due.machine("12 is not 4", done(0x7c, 0x10, 0, 0), 2, 0, 0, 0);
    }

    private static void lowestThreeBitsOfTheSecond(Due due) {
        for (int second : new int[] {0x00, 0x07, 0x08, 0x0f, 0x78, 0x7f, 0x80, 0xf8, 0xff}) {
            int s = second & 7;
            int[] want = {-1, -1, 3 + 900, 3 - 900, 77, -1, 3 & 900, -1, 900, 2700, -1, 3};
            for (int kind : new int[] {2, 3, 4, 6, 8, 9, 11}) {
                BlockRows x = Due.machineAt(0, kind << 4 | 4, second);
                x.poke(900, 77);
                x.set(s, 900);
                x.set(4, 3);
                x.run(1);
                due.same("kind " + kind + ", second byte " + second, x.register(4), want[kind]);
                due.same("kind " + kind + ": s stays", x.register(s), 900);
                due.same("state", x.register(11), 0);
            }
            BlockRows stored = Due.machineAt(0, 0x54, second);
            stored.set(s, 900);
            stored.set(4, 3);
            stored.run(1);
            due.same("STORE, second byte " + second, stored.memory(900), 3);
            BlockRows compared = Due.machineAt(0, 0xb4, second);
            compared.set(s, 900);
            compared.set(4, 900);
            compared.run(1);
            due.same("COMPARE, second byte " + second + ": Z", compared.register(9), 1);
            faultsByTheseBitsAlone(due, second);
        }
    }

    private static void faultsByTheseBitsAlone(Due due, int second) {
        for (int kind = 4; kind <= 5; kind++) {
            BlockRows wrong = Due.machineAt(0, kind << 4 | 4, second);
            wrong.set(second & 7, -1);
            due.same("kind " + kind + ", s is -1, second byte " + second, wrong.run(1), 0);
            due.same("fault 1", wrong.register(11), 2);
            BlockRows right = Due.machineAt(0, kind << 4 | 4, second);
            for (int r = 0; r < 8; r++) {
                right.set(r, r == (second & 7) ? 900 : -1);
            }
            due.same("kind " + kind + ", all but s are -1, second byte " + second, right.run(1), 1);
            due.same("no fault", right.register(11), 0);
        }
    }

    private static void nBelowZero(Due due) {
        int[][] edges = {{0, 0}, {1, 1}, {126, 126}, {127, 127}, {128, -128}, {129, -127}, {254, -2}, {255, -1}};
        for (int[] edge : edges) {
            BlockRows set = Due.machineAt(0, 0x15, edge[0]);
            set.run(1);
            due.same("SET, second byte " + edge[0], set.register(5), edge[1]);
            BlockRows jump = Due.machineAt(500, 0x70, edge[0]);
            jump.run(1);
            due.same("JUMP, second byte " + edge[0], jump.register(8), 502 + edge[1]);
        }
    }

    private static void haltOfOneByte(Due due) {
        for (int at : new int[] {0, 1022, 1023}) {
            BlockRows x = new BlockRows();
            x.go(at);
            due.same("run(100)", x.run(100), 0);
            due.machine("a HALT at " + at, x, at, 0, 0, 1);
            due.row("a HALT at " + at, x, at & 31, at, 1, 1);
        }
    }

    private static void setsAllBits(Due due) {
        for (int before : new int[] {MIN, -1, MAX}) {
            due.same("SET 0 instead of " + before, done(0x11, 0, before, before).register(1), 0);
            due.same("SET 127 instead of " + before, done(0x11, 127, before, 0).register(1), 127);
            due.same("SET -128 instead of " + before, done(0x11, 128, before, 0).register(1), -128);
        }
    }

    private static void loadsFromNothingToAll(Due due) {
        for (int at : new int[] {0, 1022, 1023}) {
            for (int v : new int[] {0, 1, 127, 128, 255}) {
                BlockRows x = Due.machineAt(10, 0x41, 0x06);
                x.poke(at, v);
                x.set(1, -1);
                x.set(6, at);
                due.same("run(1)", x.run(1), 1);
                due.same("LOAD of " + v + " at " + at, x.register(1), v);
                due.same("memory(" + at + ") stays", x.memory(at), v);
                due.counts("LOAD throws out nothing and writes nothing", x, 1, 1, 0, 0, 1, 0, 2);
            }
        }
        BlockRows own = done(0x41, 0x06, 5, 0);
        due.same("LOAD of a byte of its own block", own.register(1), 0x41);
        due.counts("LOAD of a byte of its own block", own, 1, 1, 0, 0, 1, 0, 2);
    }

    private static void storesLowestEightBits(Due due) {
        int[][] edges = {{0, 0}, {127, 127}, {128, 128}, {255, 255}, {256, 0}, {257, 1}, {511, 255}, {-1, 255},
            {-128, 128}, {-255, 1}, {-256, 0}, {MIN, 0}, {MAX, 255}};
        for (int at : new int[] {0, 1022, 1023}) {
            for (int[] edge : edges) {
                BlockRows x = Due.machineAt(10, 0x51, 0x06);
                x.poke(at, 99);
                x.set(1, edge[0]);
                x.set(6, at);
                due.same("run(1)", x.run(1), 1);
                due.same("STORE of " + edge[0] + " at " + at, x.memory(at), edge[1]);
                due.same("r stays", x.register(1), edge[0]);
                due.same("the neighbour stays", x.memory(at == 1023 ? 1022 : at + 1), 0);
                due.same("bytes written", x.count(5), 1);
            }
        }
    }

    private static void jumpConditions(Due due) {
        int[] results = {MIN, -1, 0, 1, MAX};
        int[][] holds = {{1, 1, 1, 1, 1}, {0, 0, 1, 0, 0}, {1, 1, 0, 1, 1}, {1, 1, 0, 0, 0}, {0, 0, 1, 1, 1}};
        for (int i = 0; i < results.length; i++) {
            for (int condition = 0; condition < 16; condition++) {
                BlockRows x = Due.machineAt(100, 0x61, 0x01, 0x70 | condition, 50);
                x.set(1, results[i]);
                due.same("a JUMP is a step, if it holds or not", x.run(2), 2);
                boolean jumped = condition < 5 && holds[condition][i] == 1;
                due.machine("condition " + condition + " at " + results[i], x, jumped ? 154 : 104,
                        z(results[i]), n(results[i]), 0);
            }
        }
    }

    private static void jumpDistances(Due due) {
        int[][] edges = {{0, 0, 2}, {0, 0x7f, 129}, {0, 0xfe, 0}, {0, 0xfd, -1}, {0, 0x80, -126}, {126, 0x80, 0},
            {125, 0x80, -1}, {1022, 0, 1024}, {1022, 0xff, 1023}, {1022, 0x7f, 1151}, {1022, 0x80, 896},
            {895, 0x7f, 1024}, {894, 0x7f, 1023}};
        for (int[] edge : edges) {
            BlockRows x = Due.machineAt(edge[0], 0x70, edge[1]);
            due.same("run(1)", x.run(1), 1);
            due.machine("JUMP at " + edge[0] + ", second byte " + edge[1], x, edge[2], 0, 0, 0);
        }
    }

    private static void halvesRoundedDown(Due due) {
        int[][] edges = {{0, 0}, {1, 0}, {2, 1}, {3, 1}, {-1, -1}, {-2, -1}, {-3, -2}, {-4, -2}, {MAX, 1073741823},
            {MAX - 1, 1073741823}, {MIN, -1073741824}, {MIN + 1, -1073741824}, {MIN + 2, -1073741823}};
        for (int[] edge : edges) {
            BlockRows x = Due.machineAt(1023, 0xa1);
            x.set(1, edge[0]);
            due.same("run(1) at the last byte", x.run(1), 1);
            due.same("HALF of " + edge[0], x.register(1), edge[1]);
            due.machine("HALF of " + edge[0], x, 1024, z(edge[1]), n(edge[1]), 0);
        }
    }

    private static void comparesAndKeepsNothing(Due due) {
        int[][] edges = {{0, 0, 1, 0}, {0, 1, 0, 1}, {1, 0, 0, 0}, {MIN, MIN, 1, 0}, {MIN, 1, 0, 0}, {MAX, -1, 0, 1},
            {0, MIN, 0, 1}, {-1, MIN, 0, 0}, {MIN, MAX, 0, 0}, {MAX, MIN, 0, 1}};
        for (int[] edge : edges) {
            BlockRows x = done(11, edge[0], edge[1]);
            String call = "COMPARE " + edge[0] + ", " + edge[1];
            due.same(call + ": r", x.register(1), edge[0]);
            due.same(call + ": s", x.register(6), edge[1]);
            due.machine(call, x, 2, edge[2], edge[3], 0);
        }
    }

    private static void oneRegisterTwice(Due due) {
        int[] want = {-1, -1, 14, 0, 0, -1, 7, -1, 7, 49};
        for (int kind : new int[] {2, 3, 4, 6, 8, 9}) {
            due.same("kind " + kind + " of one register twice", done(kind << 4 | 3, 3, 7, 7).register(3), want[kind]);
        }
        due.same("STORE of a place at itself", done(0x53, 3, 1023, 1023).memory(1023), 255);
        BlockRows compared = done(0xb3, 3, -9, -9);
        due.machine("COMPARE of one register twice", compared, 2, 1, 0, 0);
        due.same("it stays", compared.register(3), -9);
    }

    private static void flagsAtTheirEdges(Due due) {
        int[] results = {MIN, -1, 0, 1, MAX};
        for (int result : results) {
            for (int before : results) {
                flagsOf(due, 0x21, 0x07, result, before);
                flagsOf(due, 0x31, 0x07, result, before);
                flagsOf(due, 0x61, 0x01, result, before);
                flagsOf(due, 0x91, 0x06, result, before);
                flagsOf(due, 0xb1, 0x07, result, before);
            }
        }
        int[][] halves = {{-1, 0, 1}, {-2, 0, 1}, {0, 1, 0}, {1, 1, 0}, {2, 0, 0}};
        for (int[] half : halves) {
            BlockRows x = done(0xa1, 0x00, half[0], 0);
            due.machine("HALF of " + half[0], x, 1, half[1], half[2], 0);
        }
    }

    /** A word at 2 that answers its r (r7 is 0, r6 is 1), behind an AND at 0 that has set other flags. */
    private static void flagsOf(Due due, int first, int second, int result, int before) {
        BlockRows x = Due.machineAt(0, 0x62, 0x02, first, second);
        x.set(1, result);
        x.set(2, before);
        x.set(6, 1);
        due.same("run(2)", x.run(2), 2);
        due.machine("first byte " + first + ": result " + result + " behind " + before, x, 4, z(result), n(result), 0);
        due.same("the result", x.register(1), result);
    }

    private static void noFlags(Due due) {
        int[][] words = {{0x00, 0x00}, {0x11, 0x00}, {0x11, 0xff}, {0x11, 0x01}, {0x41, 0x06}, {0x41, 0x07},
            {0x51, 0x06}, {0x70, 0x10}, {0x7f, 0x10}, {0x81, 0x01}, {0x81, 0x03}, {0x81, 0x06}, {0xc0, 0x00},
            {0x41, 0x03}, {0x51, 0x03}};
        for (int before : new int[] {-1, 0, 1}) {
            for (int[] word : words) {
                BlockRows x = Due.machineAt(0, 0x62, 0x02, word[0], word[1]);
                x.set(2, before);
                x.set(3, -1);
                x.set(6, 900);
                x.run(2);
                due.same("first byte " + word[0] + " leaves Z", x.register(9), z(before));
                due.same("first byte " + word[0] + " leaves N", x.register(10), n(before));
            }
            BlockRows hand = Due.machineAt(0, 0x62, 0x02);
            hand.set(2, before);
            hand.run(1);
            hand.set(2, 0);
            hand.set(2, before - 1);
            hand.poke(0, 0);
            hand.pokeFour(0, -1);
            hand.forget();
            hand.go(900);
            hand.run(1);
            due.same("calls by hand and a HALT leave Z", hand.register(9), z(before));
            due.same("calls by hand and a HALT leave N", hand.register(10), n(before));
        }
    }

    private static void thirtyTwoBits(Due due) {
        int[][] edges = {{2, MAX, 1, MIN}, {2, MAX, MAX, -2}, {2, MIN, -1, MAX}, {2, MIN, MIN, 0}, {2, -1, 1, 0},
            {3, MIN, 1, MAX}, {3, MAX, -1, MIN}, {3, 0, MIN, MIN}, {3, MIN, MAX, 1}, {3, MAX, MIN, -1},
            {3, MIN, MIN, 0},
            {9, 65536, 65536, 0}, {9, 65536, 32768, MIN}, {9, MAX, MAX, 1}, {9, MAX, 2, -2}, {9, MIN, -1, MIN},
            {9, MIN, 2, 0}, {9, MIN, MIN, 0}, {9, 46341, 46341, -2147479015}, {9, -1, -1, 1}, {9, 0, -1, 0}};
        for (int[] edge : edges) {
            BlockRows x = done(edge[0], edge[1], edge[2]);
            String call = "kind " + edge[0] + " of " + edge[1] + ", " + edge[2];
            due.same(call, x.register(1), edge[3]);
            due.machine(call, x, 2, z(edge[3]), n(edge[3]), 0);
        }
    }
}
