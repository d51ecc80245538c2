/** The boundary cases of promises 1 to 5, 7 and 8 and of the terms that they use, sentence by sentence. */
public final class BoundaryCallsTest {
    private static final int MIN = Integer.MIN_VALUE;
    private static final int MAX = Integer.MAX_VALUE;
    private static final int[] OUTSIDE_MEMORY = {-1, -2, 1024, 1025, 65536, MIN, MIN + 1, MAX};

    public static void main(String[] args) {
        Due due = new Due();
        due.sentence("Terms (promises 2, 3, 7)", "MEMORY has 1024 bytes (0 at first)", BoundaryCallsTest::memorysEnds);
        due.sentence("Terms (promises 4, 8)", "REGISTERS 0 .. 7 (32 bits, 0 at first)",
                BoundaryCallsTest::registersEnds);
        due.sentence("Promise 1", "All 0, no blocks.", BoundaryCallsTest::aNewObject);
        due.sentence("Promise 2", "A byte of memory by hand: the one before.",
                BoundaryCallsTest::pokeAnswersTheOneBefore);
        due.sentence("Promise 2", "IndexOutOfBoundsException, when there is none",
                BoundaryCallsTest::pokeWhereThereIsNone);
        due.sentence("Promise 2", "IllegalArgumentException, when v is not 0 .. 255.", BoundaryCallsTest::pokeOfNoByte);
        due.sentence("Terms (promise 2)", "Of several exceptions the first one told is thrown.",
                BoundaryCallsTest::theFirstOneTold);
        due.sentence("Promise 3",
                "Four bytes of memory from a place on by hand, the highest first (as far as memory goes): how many.",
                BoundaryCallsTest::pokeFourAsFarAsMemoryGoes);
        due.sentence("Promise 3", "IndexOutOfBoundsException, when there is no such place.",
                BoundaryCallsTest::pokeFourWhereThereIsNoSuchPlace);
        due.sentence("Promise 4", "A register (0 .. 7) by hand: the number before.",
                BoundaryCallsTest::setAnswersTheNumberBefore);
        due.sentence("Promise 4", "IndexOutOfBoundsException, when there is none.",
                BoundaryCallsTest::setWhereThereIsNone);
        due.sentence("Promise 5", "The place by hand: the one before", BoundaryCallsTest::goAnswersTheOneBefore);
        due.sentence("Promise 5", "it runs then", BoundaryCallsTest::itRunsThen);
        due.sentence("Promise 5", "IndexOutOfBoundsException, when it is not 0 .. 1023.", BoundaryCallsTest::goOutside);
        due.sentence("Promise 7", "A byte of memory.", BoundaryCallsTest::memoryAnswersAByte);
        due.sentence("Promise 7", "IndexOutOfBoundsException, when there is none.",
                BoundaryCallsTest::memoryWhereThereIsNone);
        due.sentence("Promise 8", "A register, or 8 the place, 9 Z, 10 N, 11 the state.",
                BoundaryCallsTest::registerAnswers);
        due.sentence("Promise 8", "IndexOutOfBoundsException, when there is none such.",
                BoundaryCallsTest::registerWhereThereIsNone);
        due.end();
    }

    private static void memorysEnds(Due due) {
        int[] places = {0, 1, 255, 256, 511, 512, 1022, 1023};
        BlockRows x = new BlockRows();
        for (int at : places) {
            due.same("memory(" + at + ") at first", x.memory(at), 0);
        }
        for (int i = 0; i < places.length; i++) {
            due.same("poke(" + places[i] + ", ..)", x.poke(places[i], 101 + i), 0);
        }
        for (int i = 0; i < places.length; i++) {
            due.same("memory(" + places[i] + ")", x.memory(places[i]), 101 + i);
        }
        due.noIndex("memory(1024)", () -> x.memory(1024));
        due.noIndex("poke(1024, 1)", () -> x.poke(1024, 1));
        due.noIndex("pokeFour(1024, 1)", () -> x.pokeFour(1024, 1));
    }

    private static void registersEnds(Due due) {
        for (int v : new int[] {MIN, MIN + 1, -65536, -1, 1, 65536, MAX}) {
            BlockRows x = new BlockRows();
            due.same("set(0, " + v + ")", x.set(0, v), 0);
            due.same("set(7, ..)", x.set(7, ~v), 0);
            due.same("register(0)", x.register(0), v);
            due.same("register(7)", x.register(7), ~v);
            due.same("register(1)", x.register(1), 0);
            due.same("register(6)", x.register(6), 0);
        }
    }

    private static void aNewObject(Due due) {
        BlockRows x = new BlockRows();
        for (int r = 0; r < 12; r++) {
            due.same("register(" + r + ")", x.register(r), 0);
        }
        for (int k = 0; k < 32; k++) {
            due.row("new", x, k, -1, 0, 0);
        }
        due.counts("new", x, 0, 0, 0, 0, 0, 0, 0);
        due.same("forget() of no blocks", x.forget(), 0);
        BlockRows upper = new BlockRows();
        BlockRows middle = new BlockRows();
        BlockRows lower = new BlockRows();
        for (int at = 0; at < 342; at++) {
            due.same("memory(" + at + ")", lower.memory(at), 0);
            due.same("memory(" + (341 + at) + ")", middle.memory(341 + at), 0);
            due.same("memory(" + (1023 - at) + ")", upper.memory(1023 - at), 0);
        }
        due.same("run(100) of a new object", new BlockRows().run(100), 0);
        Due.worn();
        due.alike("made behind another object's calls", new BlockRows(), x);
    }

    private static void pokeAnswersTheOneBefore(Due due) {
        for (int at : new int[] {0, 1, 1022, 1023}) {
            BlockRows x = new BlockRows();
            due.same("poke(" + at + ", 255)", x.poke(at, 255), 0);
            due.same("poke(" + at + ", 128)", x.poke(at, 128), 255);
            due.same("poke(" + at + ", 128) again", x.poke(at, 128), 128);
            due.same("poke(" + at + ", 127)", x.poke(at, 127), 128);
            due.same("poke(" + at + ", 0)", x.poke(at, 0), 127);
            due.same("memory(" + at + ")", x.memory(at), 0);
            due.same("bytes written by STORE", x.count(5), 0);
        }
    }

    private static void pokeWhereThereIsNone(Due due) {
        BlockRows x = Due.worn();
        for (int at : OUTSIDE_MEMORY) {
            due.noIndex("poke(" + at + ", 0)", () -> x.poke(at, 0));
            due.noIndex("poke(" + at + ", 255)", () -> x.poke(at, 255));
        }
        due.alike("a refused poke", x, Due.worn());
    }

    private static void pokeOfNoByte(Due due) {
        BlockRows x = Due.worn();
        for (int v : new int[] {-1, -128, -255, 256, 257, 65536, MIN, MAX}) {
            due.noArgument("poke(0, " + v + ")", () -> x.poke(0, v));
            due.noArgument("poke(1, " + v + ")", () -> x.poke(1, v));
            due.noArgument("poke(1023, " + v + ")", () -> x.poke(1023, v));
        }
        due.alike("a refused poke throws out nothing and writes nothing", x, Due.worn());
        BlockRows y = new BlockRows();
        due.same("poke(0, 0)", y.poke(0, 0), 0);
        due.same("poke(0, 255)", y.poke(0, 255), 0);
        due.same("memory(0)", y.memory(0), 255);
    }

    private static void theFirstOneTold(Due due) {
        BlockRows x = Due.worn();
        for (int at : OUTSIDE_MEMORY) {
            for (int v : new int[] {-1, 256, MIN, MAX}) {
                due.noIndex("poke(" + at + ", " + v + ")", () -> x.poke(at, v));
            }
        }
        due.alike("a refused poke", x, Due.worn());
    }

    private static void pokeFourAsFarAsMemoryGoes(Due due) {
        int[] many = {4, 4, 3, 2, 1};
        for (int i = 0; i < many.length; i++) {
            int at = 1019 + i;
            BlockRows x = new BlockRows();
            due.same("pokeFour(" + at + ", ..)", x.pokeFour(at, 0x80ff7f01), many[i]);
            int[] want = {0x80, 0xff, 0x7f, 0x01};
            for (int b = 0; b < many[i]; b++) {
                due.same("memory(" + (at + b) + ")", x.memory(at + b), want[b]);
            }
            due.same("the byte before", x.memory(at - 1), 0);
            for (int b = 0; b < 4; b++) {
                due.same("memory(" + b + "): there is no wrap-around", x.memory(b), 0);
            }
            due.same("bytes written by STORE", x.count(5), 0);
        }
        for (int v : new int[] {0, -1, MIN, MAX, 1, 256, 65536, 1 << 24}) {
            BlockRows x = new BlockRows();
            due.same("pokeFour(0, " + v + ")", x.pokeFour(0, v), 4);
            for (int b = 0; b < 4; b++) {
                due.same(v + ": memory(" + b + ")", x.memory(b), Integer.toUnsignedLong(v) >> (8 * (3 - b)) & 255);
            }
            due.same("the byte behind", x.memory(4), 0);
        }
    }

    private static void pokeFourWhereThereIsNoSuchPlace(Due due) {
        BlockRows x = Due.worn();
        for (int at : OUTSIDE_MEMORY) {
            due.noIndex("pokeFour(" + at + ", -1)", () -> x.pokeFour(at, -1));
        }
        due.noIndex("pokeFour(-3, -1), whose last byte would lie in memory", () -> x.pokeFour(-3, -1));
        due.alike("a refused pokeFour", x, Due.worn());
        BlockRows y = new BlockRows();
        due.same("pokeFour(1023, -1)", y.pokeFour(1023, -1), 1);
        due.same("pokeFour(0, -1)", y.pokeFour(0, -1), 4);
    }

    private static void setAnswersTheNumberBefore(Due due) {
        for (int r : new int[] {0, 7}) {
            BlockRows x = new BlockRows();
            due.same("set(" + r + ", MIN)", x.set(r, MIN), 0);
            due.same("set(" + r + ", MAX)", x.set(r, MAX), MIN);
            due.same("set(" + r + ", -1)", x.set(r, -1), MAX);
            due.same("set(" + r + ", -1) again", x.set(r, -1), -1);
            due.same("set(" + r + ", 0)", x.set(r, 0), -1);
            due.machine("set changes no flag, place or state", x, 0, 0, 0, 0);
        }
        BlockRows x = Due.worn();
        x.set(3, x.register(3));
        due.alike("the number that there is", x, Due.worn());
    }

    private static void setWhereThereIsNone(Due due) {
        BlockRows x = Due.worn();
        for (int r : new int[] {-1, -8, 8, 9, 10, 11, 12, 16, MIN, MAX}) {
            due.noIndex("set(" + r + ", 5)", () -> x.set(r, 5));
        }
        due.alike("a refused set", x, Due.worn());
    }

    private static void goAnswersTheOneBefore(Due due) {
        BlockRows x = new BlockRows();
        due.same("go(1023)", x.go(1023), 0);
        due.same("register(8)", x.register(8), 1023);
        due.same("go(1023) again", x.go(1023), 1023);
        due.same("go(0)", x.go(0), 1023);
        due.same("register(8)", x.register(8), 0);
        due.counts("go alone makes no block", x, 0, 0, 0, 0, 0, 0, 0);
        BlockRows below = Due.machineAt(0, 0x70, 0x80);
        below.run(1);
        due.same("go(0) from a place below 0", below.go(0), -126);
        BlockRows above = Due.machineAt(1022, 0x70, 0x7f);
        above.run(1);
        due.same("go(0) from a place behind memory", above.go(0), 1151);
    }

    private static void itRunsThen(Due due) {
        // A HALT, a fault 1, a fault 2 and a fault 3, each at its place.
        int[][] ends = {{40, 0x00, 1}, {42, 0x40, 2}, {44, 0xc0, 3}, {1023, 0x10, 4}};
        for (int[] end : ends) {
            BlockRows x = Due.machineAt(end[0], end[1]);
            x.set(0, -1);
            due.same("run(5)", x.run(5), 0);
            due.same("the state", x.register(11), end[2]);
            due.same("go to where it stands", x.go(end[0]), end[0]);
            due.machine("it runs", x, end[0], 0, 0, 0);
            due.same("run(5)", x.run(5), 0);
            due.machine("it comes to the same again", x, end[0], 0, 0, end[2]);
            due.counts("by a hit", x, 0, 1, 1, 0, 1, 0, x.row(end[0] & 31, 1));
        }
        BlockRows x = Due.machineAt(0, 0x10, 1);
        due.machine("go while it runs", x, 0, 0, 0, 0);
    }

    private static void goOutside(Due due) {
        BlockRows x = Due.worn();
        for (int place : OUTSIDE_MEMORY) {
            due.noIndex("go(" + place + ")", () -> x.go(place));
        }
        due.noIndex("go(-126)", () -> x.go(-126));
        due.noIndex("go(1151)", () -> x.go(1151));
        due.alike("a refused go leaves it halted", x, Due.worn());
        BlockRows y = new BlockRows();
        due.same("go(1023)", y.go(1023), 0);
        due.same("go(0)", y.go(0), 1023);
    }

    private static void memoryAnswersAByte(Due due) {
        for (int v : new int[] {0, 1, 127, 128, 255}) {
            BlockRows x = new BlockRows();
            x.poke(0, v);
            x.poke(1023, 255 - v);
            due.same("memory(0)", x.memory(0), v);
            due.same("memory(1023)", x.memory(1023), 255 - v);
        }
    }

    private static void memoryWhereThereIsNone(Due due) {
        BlockRows x = Due.worn();
        for (int at : OUTSIDE_MEMORY) {
            due.noIndex("memory(" + at + ")", () -> x.memory(at));
        }
        due.alike("a refused memory", x, Due.worn());
    }

    private static void registerAnswers(Due due) {
        BlockRows x = Due.machineAt(1020, 0x37, 0x07, 0xc0);
        x.set(0, MIN);
        x.set(6, 6);
        x.set(7, MAX);
        due.same("register(7)", x.register(7), MAX);
        x.run(5);
        due.same("register(0), the first", x.register(0), MIN);
        due.same("register(6)", x.register(6), 6);
        due.same("register(7), the last", x.register(7), 0);
        due.same("register(8)", x.register(8), 1022);
        due.same("register(9)", x.register(9), 1);
        due.same("register(10)", x.register(10), 0);
        due.same("register(11)", x.register(11), 3);
        BlockRows below = Due.machineAt(0, 0x61, 0x01, 0x70, 0x80);
        below.set(1, -1);
        below.run(5);
        due.same("register(8) below 0", below.register(8), -124);
        due.same("register(9)", below.register(9), 0);
        due.same("register(10)", below.register(10), 1);
        due.same("register(11), the highest state", below.register(11), 4);
    }

    private static void registerWhereThereIsNone(Due due) {
        BlockRows x = Due.worn();
        for (int r : new int[] {-1, -8, 12, 13, 16, MIN, MAX}) {
            due.noIndex("register(" + r + ")", () -> x.register(r));
        }
        due.alike("a refused register", x, Due.worn());
    }
}
