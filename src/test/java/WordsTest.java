/** Promise 6: each kind of word, with its flags and faults. */
public final class WordsTest {
    private static final int MIN = Integer.MIN_VALUE;
    private static final int MAX = Integer.MAX_VALUE;

    public static void main(String[] args) {
        Due due = new Due();
        halts(due);
        sets(due);
        reckons(due);
        compares(due);
        halves(due);
        moves(due);
        loadsAndStores(due);
        jumps(due);
        faults(due);
        due.end();
    }

    private static void halts(Due due) {
        for (int low = 0; low < 16; low++) {
            BlockRows x = Due.machineAt(50, low, 0x10);
            due.same("run(9) at a HALT", x.run(9), 0);
            due.machine("halted", x, 50, 0, 0, 1);
            due.row("halted", x, 18, 50, 1, 1);
            String before = Due.all(x);
            due.same("run(9) when halted", x.run(9), 0);
            due.unchanged("run when halted", x, before);
        }
    }

    private static void sets(Due due) {
        for (int low = 0; low < 16; low++) {
            for (int n = 0; n < 256; n++) {
                BlockRows x = Due.machineAt(0, 0x10 | low, n);
                due.same("run(1)", x.run(1), 1);
                due.same("SET n " + n, x.register(low & 7), (byte) n);
                due.machine("SET sets no flags", x, 2, 0, 0, 0);
            }
        }
    }

    /** Does a word of two bytes with r = 2 and s = 5; the bits that do not matter are set. */
    private static BlockRows done(int kind, int a, int b) {
        BlockRows x = Due.machineAt(0, kind << 4 | 0x0a, 0xfd);
        x.set(2, a);
        x.set(5, b);
        x.run(1);
        return x;
    }

    private static void worked(Due due, int kind, int a, int b, int want) {
        BlockRows x = done(kind, a, b);
        String call = "kind " + kind + " of " + a + ", " + b;
        due.same(call, x.register(2), want);
        due.same(call + ": s", x.register(5), b);
        due.machine(call, x, 2, want == 0 ? 1 : 0, want < 0 ? 1 : 0, 0);
    }

    private static void reckons(Due due) {
        worked(due, 2, 3, 4, 7);
        worked(due, 2, 3, -3, 0);
        worked(due, 2, MAX, 1, MIN);
        worked(due, 2, MIN, -1, MAX);
        worked(due, 2, MIN, MIN, 0);
        worked(due, 3, 3, 4, -1);
        worked(due, 3, 4, 4, 0);
        worked(due, 3, MIN, 1, MAX);
        worked(due, 3, MAX, -1, MIN);
        worked(due, 3, 0, MIN, MIN);
        worked(due, 6, 12, 10, 8);
        worked(due, 6, 12, 3, 0);
        worked(due, 6, -1, MIN, MIN);
        worked(due, 9, -7, 6, -42);
        worked(due, 9, 65536, 65536, 0);
        worked(due, 9, MAX, MAX, 1);
        worked(due, 9, MIN, -1, MIN);
        BlockRows x = Due.machineAt(0, 0x93, 0x03);
        x.set(3, -5);
        x.run(1);
        due.same("MUL of one register with itself", x.register(3), 25);
    }

    private static void compared(Due due, int a, int b, int z, int n) {
        BlockRows x = done(11, a, b);
        String call = "COMPARE " + a + ", " + b;
        due.same(call + ": r", x.register(2), a);
        due.same(call + ": s", x.register(5), b);
        due.machine(call, x, 2, z, n, 0);
    }

    private static void compares(Due due) {
        compared(due, 5, 5, 1, 0);
        compared(due, 5, 6, 0, 1);
        compared(due, 6, 5, 0, 0);
        compared(due, MIN, 1, 0, 0);
        compared(due, MAX, -1, 0, 1);
        compared(due, 0, MIN, 0, 1);
    }

    private static void halved(Due due, int a, int want) {
        for (int low = 4; low < 16; low += 8) {
            BlockRows x = Due.machineAt(0, 0xa0 | low, 0xff);
            x.set(4, a);
            x.run(1);
            due.same("HALF of " + a, x.register(4), want);
            due.machine("HALF of " + a, x, 1, want == 0 ? 1 : 0, want < 0 ? 1 : 0, 0);
        }
    }

    private static void halves(Due due) {
        halved(due, 7, 3);
        halved(due, 6, 3);
        halved(due, 1, 0);
        halved(due, 0, 0);
        halved(due, -1, -1);
        halved(due, -2, -1);
        halved(due, -3, -2);
        halved(due, MIN, MIN / 2);
        halved(due, MAX, MAX / 2);
    }

    private static void moves(Due due) {
        for (int v : new int[] {0, -1, 9, MIN}) {
            BlockRows x = done(8, 77, v);
            due.same("MOVE " + v, x.register(2), v);
            due.same("MOVE " + v + ": s", x.register(5), v);
            due.machine("MOVE sets no flags", x, 2, 0, 0, 0);
        }
        BlockRows kept = Due.machineAt(0, 0x30, 0x00, 0x81, 0x02, 0x11, 0x80, 0x41, 0x02, 0x51, 0x02);
        kept.set(2, 900);
        kept.run(5);
        due.machine("MOVE, SET, LOAD and STORE leave Z", kept, 10, 1, 0, 0);
    }

    private static void loadsAndStores(Due due) {
        for (int at : new int[] {100, 511, 1023, 2}) {
            BlockRows x = Due.machineAt(8, 0x4a, 0xfd);
            x.poke(at, 200);
            x.set(5, at);
            due.same("LOAD", x.run(1), 1);
            due.same("LOAD: r", x.register(2), 200);
            due.machine("LOAD", x, 10, 0, 0, 0);
            due.same("LOAD writes nothing", x.count(5), 0);
        }
        for (int v : new int[] {0, 255, 256, -1, -200, 0x12345678}) {
            BlockRows x = Due.machineAt(8, 0x5a, 0xfd);
            x.set(2, v);
            x.set(5, 1023);
            due.same("STORE", x.run(1), 1);
            due.same("STORE of " + v, x.memory(1023), v & 255);
            due.same("STORE: r", x.register(2), v);
            due.machine("STORE", x, 10, 0, 0, 0);
            due.same("STORE: bytes written", x.count(5), 1);
        }
        BlockRows zero = Due.machineAt(8, 0x50, 0x01);
        zero.set(0, 7);
        zero.run(1);
        due.same("STORE at 0", zero.memory(0), 7);
    }

    /** Flags of a result below 0, 0 and above 0, in this order. */
    private static void jumps(Due due) {
        for (int condition = 0; condition < 16; condition++) {
            for (int v = -1; v <= 1; v++) {
                boolean holds = condition == 0 || condition == 1 && v == 0 || condition == 2 && v != 0
                        || condition == 3 && v < 0 || condition == 4 && v >= 0;
                BlockRows x = Due.machineAt(300, 0x60, 0x00, 0x70 | condition, 0x85);
                x.set(0, v);
                due.same("run(2)", x.run(2), 2);
                due.machine("JUMP condition " + condition + " at " + v, x, holds ? 304 - 123 : 304,
                        v == 0 ? 1 : 0, v < 0 ? 1 : 0, 0);
            }
        }
        for (int n = 0; n < 256; n++) {
            BlockRows x = Due.machineAt(300, 0x70, n);
            due.same("run(1)", x.run(1), 1);
            due.machine("JUMP n " + n, x, 302 + (byte) n, 0, 0, 0);
        }
    }

    private static void faults(Due due) {
        for (int kind = 4; kind <= 5; kind++) {
            for (int at : new int[] {-1, 1024, MIN, MAX}) {
                BlockRows x = Due.machineAt(20, 0x30, 0x00, kind << 4 | 1, 0x06, 0x00);
                x.set(1, 77);
                x.set(6, at);
                due.same("run(5)", x.run(5), 1);
                due.machine("fault 1", x, 22, 1, 0, 2);
                due.same("fault 1: r", x.register(1), 77);
                due.counts("fault 1 is no step", x, 1, 1, 0, 0, 1, 0, 3);
                due.row("fault 1 ends no block", x, 20, 20, 3, 5);
                due.same("run(5) in a fault", x.run(5), 0);
                due.counts("run in a fault", x, 1, 1, 0, 0, 1, 0, 3);
            }
        }
        for (int first = 0xc0; first < 0x100; first++) {
            BlockRows x = Due.machineAt(1023, first);
            due.same("run(5)", x.run(5), 0);
            due.machine("fault 2 of one byte", x, 1023, 0, 0, 3);
            due.row("fault 2", x, 31, 1023, 1, 1);
        }
        for (int kind : new int[] {1, 2, 3, 4, 5, 6, 7, 8, 9, 11}) {
            BlockRows x = Due.machineAt(1023, kind << 4);
            due.same("run(5)", x.run(5), 0);
            due.machine("fault 3 of a second byte, kind " + kind, x, 1023, 0, 0, 4);
            due.row("fault 3 of a second byte", x, 31, 1023, 1, 1);
        }
        BlockRows behind = Due.machineAt(1023, 0xa0);
        due.same("run(5)", behind.run(5), 1);
        due.machine("fault 3 of a place", behind, 1024, 1, 0, 4);
        due.row("fault 3 of a place", behind, 31, 1023, 2, 1);
    }
}
