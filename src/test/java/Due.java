import java.util.function.Consumer;

/** Compares answers with those that are due, prints what differs, and ends a test. */
final class Due {
    private int wrong = 0;
    private int asked = 0;
    private String from = "";

    /**
     * A sentence of the document and its test. What differs is printed with the promise and the sentence;
     * an exception that is not due ends this sentence's test alone.
     */
    void sentence(String promise, String words, Consumer<Due> test) {
        from = promise + ", \"" + words + "\": ";
        int askedBefore = asked;
        try {
            test.accept(this);
        } catch (RuntimeException e) {
            wrong++;
            System.out.println(from + "threw " + e);
        }
        if (asked == askedBefore) {
            wrong++;
            System.out.println(from + "nothing was asked");
        }
        from = "";
    }

    void same(String call, long got, long want) {
        asked++;
        if (got != want) {
            wrong++;
            System.out.println(from + call + " answered " + got + ", due is " + want);
        }
    }

    /** The exception's very class is due, so that one that the Java machine throws is told from ours. */
    void fails(String call, Class<? extends RuntimeException> due, Runnable body) {
        asked++;
        Class<?> got = null;
        try {
            body.run();
        } catch (RuntimeException e) {
            got = e.getClass();
        }
        if (got != due) {
            wrong++;
            System.out.println(from + call + " threw " + got + ", due is " + due);
        }
    }

    void noIndex(String call, Runnable body) {
        fails(call, IndexOutOfBoundsException.class, body);
    }

    void noArgument(String call, Runnable body) {
        fails(call, IllegalArgumentException.class, body);
    }

    /** Registers 8 to 11. */
    void machine(String when, BlockRows x, int place, int z, int n, int state) {
        same(when + ": place", x.register(8), place);
        same(when + ": Z", x.register(9), z);
        same(when + ": N", x.register(10), n);
        same(when + ": state", x.register(11), state);
    }

    /** count(0) to count(6). */
    void counts(String when, BlockRows x, int... want) {
        for (int what = 0; what < want.length; what++) {
            same(when + ": count(" + what + ")", x.count(what), want[what]);
        }
    }

    void row(String when, BlockRows x, int k, int... want) {
        for (int what = 0; what < want.length; what++) {
            same(when + ": row(" + k + ", " + what + ")", x.row(k, what), want[what]);
        }
    }

    /** Everything that the face shows of the object, in one text. */
    static String all(BlockRows x) {
        StringBuilder text = new StringBuilder();
        for (int at = 0; at < 1024; at++) {
            text.append(x.memory(at)).append(' ');
        }
        for (int r = 0; r < 12; r++) {
            text.append(x.register(r)).append(' ');
        }
        for (int k = 0; k < 32; k++) {
            text.append(x.row(k, 0)).append(' ').append(x.row(k, 1)).append(' ').append(x.row(k, 2)).append(' ');
        }
        for (int what = 0; what < 7; what++) {
            text.append(x.count(what)).append(' ');
        }
        return text.toString();
    }

    void unchanged(String when, BlockRows x, String before) {
        same(when + ": what the face shows is as before (1)", all(x).equals(before) ? 1 : 0, 1);
    }

    /**
     * That two objects show the same. With 371 calls of each it leaves room for others before the
     * 512th, where what an object answers begins to be free; so memory's middle is not looked at.
     */
    void alike(String when, BlockRows x, BlockRows y) {
        for (int at = 0; at < 128; at++) {
            same(when + ": memory(" + at + ")", x.memory(at), y.memory(at));
            same(when + ": memory(" + (1023 - at) + ")", x.memory(1023 - at), y.memory(1023 - at));
        }
        for (int r = 0; r < 12; r++) {
            same(when + ": register(" + r + ")", x.register(r), y.register(r));
        }
        for (int k = 0; k < 32; k++) {
            row(when, x, k, y.row(k, 0), y.row(k, 1), y.row(k, 2));
        }
        for (int what = 0; what < 7; what++) {
            same(when + ": count(" + what + ")", x.count(what), y.count(what));
        }
    }

    /**
     * A machine of which nothing is as at first, so that a change shows: five kept blocks, every count
     * above 0, N set, halted at 11.
     */
    static BlockRows worn() {
        BlockRows x = machineAt(1, 0x10, 0xfb, 0x20, 0x00, 0x51, 0x02, 0x70, 0x01, 0x00, 0xa0, 0x00);
        for (int r = 1; r < 8; r++) {
            x.set(r, 1000 + r);
        }
        x.run(3);
        x.go(1);
        x.run(9);
        for (int place = 1020; place < 1024; place++) {
            x.go(place);
            x.run(1);
        }
        x.poke(1020, 0);
        x.go(10);
        x.run(9);
        return x;
    }

    /** A new machine with these bytes of memory, written by hand. */
    static BlockRows machineAt(int at, int... program) {
        BlockRows x = new BlockRows();
        write(x, at, program);
        x.go(at);
        return x;
    }

    static void write(BlockRows x, int at, int... program) {
        for (int i = 0; i < program.length; i++) {
            x.poke(at + i, program[i]);
        }
    }

    void end() {
        if (asked == 0) {
            System.out.println("nothing was asked");
        }
        if (wrong != 0 || asked == 0) {
            System.out.println(wrong + " of " + asked + " answers are not as due");
            System.exit(1);
        }
    }
}
