/** The boundary cases of faults and of the state (the terms that promises 5, 6 and 8 use), sentence by sentence. */
public final class BoundaryFaultsTest {
    private static final int MIN = Integer.MIN_VALUE;
    private static final int MAX = Integer.MAX_VALUE;
    private static final String TERMS = "Terms (promise 6)";
    private static final int[] KINDS_OF_TWO_BYTES = {1, 2, 3, 4, 5, 6, 7, 8, 9, 11};

    public static void main(String[] args) {
        Due due = new Due();
        due.sentence(TERMS, "FAULTS: 1 a LOAD or STORE whose register s is not 0 .. 1023",
                BoundaryFaultsTest::faultOne);
        due.sentence(TERMS, "2 a word of kind 12 to 15 (one byte)", BoundaryFaultsTest::faultTwo);
        due.sentence(TERMS, "3 a word that does not lie in memory (its place",
                BoundaryFaultsTest::faultThreeByItsPlace);
        due.sentence(TERMS, ", or its second byte).", BoundaryFaultsTest::faultThreeByItsSecondByte);
        due.sentence(TERMS, "The place stays at the word; nothing else is done.", BoundaryFaultsTest::thePlaceStays);
        due.sentence("Terms (promises 6, 8)",
                "THE STATE: 0 it runs, 1 halted (the place stays at the HALT), 1 + f a fault f.",
                BoundaryFaultsTest::theStateStays);
        due.sentence("Terms (promises 1, 8)", "It runs at first.", BoundaryFaultsTest::itRunsAtFirst);
        due.end();
    }

    private static void faultOne(Due due) {
        for (int kind = 4; kind <= 5; kind++) {
            for (int at : new int[] {0, 1, 1022, 1023}) {
                BlockRows x = Due.machineAt(500, kind << 4 | 1, 0x02);
                x.set(2, at);
                due.same("kind " + kind + " at " + at, x.run(1), 1);
                due.machine("kind " + kind + " at " + at, x, 502, 0, 0, 0);
            }
            for (int at : new int[] {-1, -1024, 1024, 1025, 2047, 65536, MIN, MIN + 1023, MAX}) {
                BlockRows x = Due.machineAt(500, kind << 4 | 1, 0x02);
                x.set(2, at);
                due.same("kind " + kind + " at " + at, x.run(1), 0);
                due.machine("kind " + kind + " at " + at, x, 500, 0, 0, 2);
            }
            BlockRows r = Due.machineAt(500, kind << 4 | 1, 0x02);
            r.set(1, -1);
            due.same("kind " + kind + ": it is s that counts, not r", r.run(1), 1);
        }
        for (int kind : new int[] {1, 2, 3, 6, 8, 9, 11}) {
            BlockRows x = Due.machineAt(500, kind << 4 | 1, 0x02);
            x.set(2, -1);
            due.same("kind " + kind + " has no fault 1", x.run(1), 1);
        }
    }

    private static void faultTwo(Due due) {
        for (int first : new int[] {0xc0, 0xcf, 0xd0, 0xe7, 0xf0, 0xff}) {
            for (int at : new int[] {0, 1022, 1023}) {
                BlockRows x = Due.machineAt(at, first);
                due.same("run(100)", x.run(100), 0);
                due.machine("first byte " + first + " at " + at, x, at, 0, 0, 3);
                due.row("first byte " + first + " at " + at, x, at & 31, at, 1, 1);
            }
        }
        BlockRows x = Due.machineAt(0, 0xbf, 0x07);
        due.same("kind 11 is no fault", x.run(1), 1);
        due.same("kind 11 is no fault", x.register(11), 0);
    }

    private static void faultThreeByItsPlace(Due due) {
        // The JUMP's place, its second byte, and the place that it goes to.
        int[][] jumps = {{0, 0xfd, -1}, {0, 0x80, -126}, {1022, 0x00, 1024}, {1022, 0x7f, 1151}};
        for (int[] jump : jumps) {
            BlockRows x = Due.machineAt(jump[0], 0x70, jump[1]);
            due.same("run(100)", x.run(100), 1);
            due.machine("a JUMP to " + jump[2], x, jump[2], 0, 0, 4);
            due.row("a block at " + jump[2], x, jump[2] & 31, jump[2], 1, 0);
            due.counts("a JUMP to " + jump[2], x, 1, 2, 0, 0, 2, 0, 2);
        }
        BlockRows last = Due.machineAt(1023, 0xa0);
        due.same("run(100) from a HALF at 1023 on", last.run(100), 1);
        due.machine("behind the last byte", last, 1024, 1, 0, 4);
        BlockRows two = Due.machineAt(1022, 0x10, 5);
        due.same("run(100) from a SET at 1022 on", two.run(100), 1);
        due.machine("behind the last byte", two, 1024, 0, 0, 4);
        BlockRows back = Due.machineAt(1022, 0x70, 0xff);
        due.same("run(100)", back.run(100), 1);
        due.machine("1023 lies in memory, the word there (0xff) is a fault 2", back, 1023, 0, 0, 3);
        BlockRows first = Due.machineAt(2, 0x70, 0xfc);
        due.same("run(100)", first.run(100), 1);
        due.machine("0 lies in memory, a HALT is there", first, 0, 0, 0, 1);
    }

    private static void faultThreeByItsSecondByte(Due due) {
        for (int kind : KINDS_OF_TWO_BYTES) {
            for (int low = 0; low < 16; low += 15) {
                BlockRows x = Due.machineAt(1023, kind << 4 | low);
                x.set(0, -1);
                due.same("run(100)", x.run(100), 0);
                due.machine("kind " + kind + " at 1023", x, 1023, 0, 0, 4);
                due.row("kind " + kind + " at 1023", x, 31, 1023, 1, 1);
                BlockRows y = Due.machineAt(1022, kind << 4 | low, 7);
                due.same("kind " + kind + " at 1022", y.run(1), 1);
                due.same("kind " + kind + " at 1022: state", y.register(11), 0);
            }
        }
        BlockRows x = Due.machineAt(1022, 0xa0, 0x10);
        due.same("run(100)", x.run(100), 1);
        due.machine("behind a HALF", x, 1023, 1, 0, 4);
        BlockRows wrapped = Due.machineAt(1023, 0x11);
        wrapped.poke(0, 9);
        wrapped.run(100);
        due.same("the byte at 0 is not the second byte of a word at 1023", wrapped.register(1), 0);
    }

    /** A program that comes to the fault behind one step; r1 = -1, r2 = 1024, r3 = 3. */
    private static BlockRows before(int at, int... program) {
        BlockRows x = Due.machineAt(at, program);
        for (int r = 1; r < 8; r++) {
            x.set(r, r == 1 ? -1 : r == 2 ? 1024 : r);
        }
        x.run(1);
        return x;
    }

    private static void thePlaceStays(Due due) {
        // The state that is due, the place, and the program: AND r0 with itself and the fault.
        int[][] ends = {{2, 20, 0x60, 0, 0x43, 0x02}, {2, 20, 0x60, 0, 0x41, 0x01}, {2, 20, 0x60, 0, 0x53, 0x02},
            {2, 20, 0x60, 0, 0x53, 0x01}, {3, 20, 0x60, 0, 0xc3}, {3, 20, 0x60, 0, 0xff}, {4, 1021, 0x60, 0, 0x13},
            {4, 1021, 0x60, 0, 0x70}, {4, 1021, 0x60, 0, 0x53}, {4, 1022, 0x60, 0}};
        for (int[] end : ends) {
            int[] program = java.util.Arrays.copyOfRange(end, 2, end.length);
            BlockRows x = before(end[1], program);
            due.same("run(100)", x.run(100), 0);
            String when = "state " + end[0] + " at " + (end[1] + 2);
            due.machine(when, x, end[1] + 2, 1, 0, end[0]);
            for (int r = 0; r < 8; r++) {
                due.same(when + ": register(" + r + ")", x.register(r), r == 0 ? 0 : r == 1 ? -1 : r == 2 ? 1024 : r);
            }
            for (int i = 0; i < program.length; i++) {
                due.same(when + ": memory", x.memory(end[1] + i), program[i]);
            }
            due.same(when + ": memory(0)", x.memory(0), 0);
            due.same(when + ": memory(1020)", x.memory(1020), 0);
            due.same("steps", x.count(0), 1);
            due.same("thrown out", x.count(3), 0);
            due.same("bytes written by STORE", x.count(5), 0);
        }
    }

    private static void theStateStays(Due due) {
        int[][] ends = {{1, 20, 0x00}, {2, 20, 0x42, 0x02}, {2, 20, 0x52, 0x01}, {3, 20, 0xd0}, {4, 1023, 0x40}};
        for (int[] end : ends) {
            int[] program = java.util.Arrays.copyOfRange(end, 2, end.length);
            BlockRows x = before(end[1], program);
            BlockRows y = before(end[1], program);
            due.same("the state", x.register(11), end[0]);
            due.same("the place", x.register(8), end[1]);
            due.same("run(1) when it does not run", x.run(1), 0);
            due.same("run(100) when it does not run", x.run(100), 0);
            due.alike("run when the state is " + end[0], x, y);
        }
        BlockRows mended = before(20, 0x42, 0x02);
        mended.set(2, 5);
        due.same("a fault 1 stays when s is set by hand", mended.run(9), 0);
        due.same("until go", mended.go(20), 20);
        due.same("run(1)", mended.run(1), 1);
        BlockRows written = before(20, 0x00);
        written.poke(20, 0xa3);
        due.same("a halt stays when the HALT is written", written.run(9), 0);
        due.machine("a halt stays", written, 20, 0, 0, 1);
        written.forget();
        due.same("and when all is forgotten", written.run(9), 0);
    }

    private static void itRunsAtFirst(Due due) {
        BlockRows x = new BlockRows();
        due.same("register(11)", x.register(11), 0);
        x.poke(0, 0xa0);
        due.same("run(1)", x.run(1), 1);
        due.same("register(11)", x.register(11), 0);
    }
}
