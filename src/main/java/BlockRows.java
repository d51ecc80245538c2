/**
 * A machine of bytes run by blocks of words that are decoded once and kept, and thrown out when a
 * byte of them is written. The numbered promises of ../shared/DOC.md say what each call answers.
 */
public final class BlockRows {
    /** Nothing there. */
    public static final int NONE = -1;

    private static final int BYTES = 1024;
    private static final int REGISTERS = 8;
    private static final int ROWS = 32;
    private static final int WORDS = 12;
    private static final int MOST_STEPS = 100;

    private static final int HALT = 0;
    private static final int SET = 1;
    private static final int ADD = 2;
    private static final int SUB = 3;
    private static final int LOAD = 4;
    private static final int STORE = 5;
    private static final int AND = 6;
    private static final int JUMP = 7;
    private static final int MOVE = 8;
    private static final int MUL = 9;
    private static final int HALF = 10;
    private static final int COMPARE = 11;
    private static final int FIRST_UNKNOWN = 12;
    /** One above the kinds that four bits can tell: a word that does not lie in memory. */
    private static final int OUTSIDE = 16;

    private static final int RUNS = 0;
    private static final int HALTED = 1;
    private static final int ADDRESS_FAULT = 2;
    private static final int KIND_FAULT = 3;
    private static final int OUTSIDE_FAULT = 4;

    private final int[] bytes = new int[BYTES];
    private final int[] registers = new int[REGISTERS];
    private final Block[] blocks = new Block[ROWS];
    private int place;
    private int state;
    /** Z and N are worked out of this when they are wanted; 1 stands for both being 0. */
    private int flagged;

    private int steps;
    private int made;
    private int hits;
    private int thrownOut;
    private int stored;
    private int decoded;

    public BlockRows() {
        place = 0;
        state = RUNS;
        flagged = 1;
        for (int k = 0; k < ROWS; k++) {
            blocks[k] = new Block();
        }
    }

    public int poke(int at, int v) throws IndexOutOfBoundsException, IllegalArgumentException {
        if (!inMemory(at)) {
            throw new IndexOutOfBoundsException("no such byte");
        }
        if (v < 0 || v > 255) {
            throw new IllegalArgumentException("not a byte");
        }
        int before = bytes[at];
        write(at, v);
        return before;
    }

    public int pokeFour(int at, int v) throws IndexOutOfBoundsException {
        if (!inMemory(at)) {
            throw new IndexOutOfBoundsException("no such place");
        }
        int many = Math.min(4, BYTES - at);
        for (int i = 0; i < many; i++) {
            write(at + i, (v >>> (24 - 8 * i)) & 255);
        }
        return many;
    }

    public int set(int r, int v) throws IndexOutOfBoundsException {
        if (r < 0 || r >= REGISTERS) {
            throw new IndexOutOfBoundsException("no such register");
        }
        int before = registers[r];
        registers[r] = v;
        return before;
    }

    public int go(int place) throws IndexOutOfBoundsException {
        if (!inMemory(place)) {
            throw new IndexOutOfBoundsException("no such place");
        }
        int before = this.place;
        this.place = place;
        state = RUNS;
        return before;
    }

    public int run(int n) throws IllegalArgumentException {
        if (n < 1 || n > MOST_STEPS) {
            throw new IllegalArgumentException("not 1 to 100 steps");
        }
        int done = 0;
        // A turn does a step at least or ends the running, so n turns are enough.
        for (int turn = 0; turn < n && done < n && state == RUNS; turn++) {
            done += doBlock(n - done);
        }
        return done;
    }

    public int memory(int at) throws IndexOutOfBoundsException {
        if (!inMemory(at)) {
            throw new IndexOutOfBoundsException("no such byte");
        }
        return bytes[at];
    }

    public int register(int r) throws IndexOutOfBoundsException {
        if (r < 0 || r > 11) {
            throw new IndexOutOfBoundsException("no such register");
        }
        switch (r) {
            case 8:
                return place;
            case 9:
                return isZero() ? 1 : 0;
            case 10:
                return isBelow() ? 1 : 0;
            case 11:
                return state;
            default:
                return registers[r & 7];
        }
    }

    public int row(int k, int what) throws IndexOutOfBoundsException {
        if (k < 0 || k >= ROWS || what < 0 || what > 2) {
            throw new IndexOutOfBoundsException("no such row or what");
        }
        Block block = blocks[k];
        switch (what) {
            case 0:
                return block.isKept() ? block.begin : NONE;
            case 1:
                return block.wordCount;
            default:
                return block.byteCount;
        }
    }

    public int forget() {
        int many = 0;
        for (int k = 0; k < ROWS; k++) {
            if (blocks[k].isKept()) {
                throwOut(blocks[k]);
                many++;
            }
        }
        return many;
    }

    public int count(int what) {
        switch (what) {
            case 0:
                return steps;
            case 1:
                return made;
            case 2:
                return hits;
            case 3:
                return thrownOut;
            case 4:
                return keptNow();
            case 5:
                return stored;
            case 6:
                return decoded;
            default:
                return NONE;
        }
    }

    private static boolean inMemory(int at) {
        return at >= 0 && at < BYTES;
    }

    private boolean isZero() {
        return flagged == 0;
    }

    private boolean isBelow() {
        return flagged < 0;
    }

    private int keptNow() {
        int many = 0;
        for (int k = 0; k < ROWS; k++) {
            if (blocks[k].isKept()) {
                many++;
            }
        }
        return many;
    }

    private void throwOut(Block block) {
        block.empty(0);
        thrownOut++;
    }

    private void write(int at, int v) {
        bytes[at] = v;
        for (int k = 0; k < ROWS; k++) {
            if (blocks[k].hasByte(at)) {
                throwOut(blocks[k]);
            }
        }
    }

    private int doBlock(int most) {
        Block block = blockAt(place);
        int done = 0;
        // A block that its own STORE has thrown out has no words any more, which ends the loop.
        for (int w = 0; w < WORDS && w < block.wordCount && done < most; w++) {
            if (!doWord(block.words[w])) {
                break;
            }
            done++;
        }
        return done;
    }

    private Block blockAt(int begin) {
        Block block = blocks[begin & (ROWS - 1)];
        if (block.beginsAt(begin)) {
            hits++;
        } else {
            decode(block, begin);
        }
        return block;
    }

    private void decode(Block block, int begin) {
        block.empty(begin);
        int at = begin;
        boolean open = true;
        for (int w = 0; w < WORDS && open; w++) {
            int word = wordAt(at);
            int kind = word >> 12;
            block.words[w] = word;
            block.wordCount++;
            at += kind == OUTSIDE ? bytesOfOutside(at) : lengthOf(kind);
            open = !endsBlock(kind);
        }
        block.byteCount = at - begin;
        made++;
        decoded += block.wordCount;
    }

    /** The kind, the first byte's lowest four bits and the second byte, in one number. */
    private int wordAt(int at) {
        if (!inMemory(at)) {
            return OUTSIDE << 12;
        }
        int first = bytes[at] << 8;
        if (lengthOf(first >> 12) == 1) {
            return first;
        }
        if (!inMemory(at + 1)) {
            return OUTSIDE << 12;
        }
        return first | bytes[at + 1];
    }

    /** Such a word's first byte may still lie in memory, and is then a byte of the block. */
    private static int bytesOfOutside(int at) {
        return inMemory(at) ? 1 : 0;
    }

    private static int lengthOf(int kind) {
        return kind == HALT || kind == HALF || kind >= FIRST_UNKNOWN ? 1 : 2;
    }

    private static boolean endsBlock(int kind) {
        return kind == HALT || kind == JUMP || kind >= FIRST_UNKNOWN;
    }

    /** Whether it was a step; if it was none, the state says why and the place has stayed. */
    private boolean doWord(int word) {
        int kind = word >> 12;
        int low = (word >> 8) & 15;
        int second = word & 255;
        state = stateBefore(kind, second & 7);
        if (state != RUNS) {
            return false;
        }
        place += lengthOf(kind);
        perform(kind, low, second);
        steps++;
        return true;
    }

    private int stateBefore(int kind, int s) {
        if (kind == HALT) {
            return HALTED;
        }
        if (kind == OUTSIDE) {
            return OUTSIDE_FAULT;
        }
        if (kind >= FIRST_UNKNOWN) {
            return KIND_FAULT;
        }
        if ((kind == LOAD || kind == STORE) && !inMemory(registers[s])) {
            return ADDRESS_FAULT;
        }
        return RUNS;
    }

    private void perform(int kind, int low, int second) {
        int r = low & 7;
        int s = second & 7;
        switch (kind) {
            case SET:
                registers[r] = belowZeroToo(second);
                break;
            case LOAD:
                registers[r] = bytes[registers[s]];
                break;
            case STORE:
                write(registers[s], registers[r] & 255);
                stored++;
                break;
            case JUMP:
                if (holds(low)) {
                    place += belowZeroToo(second);
                }
                break;
            case MOVE:
                registers[r] = registers[s];
                break;
            case COMPARE:
                flagged = registers[r] - registers[s];
                break;
            default:
                flagged = worked(kind, registers[r], registers[s]);
                registers[r] = flagged;
                break;
        }
    }

    private static int worked(int kind, int a, int b) {
        switch (kind) {
            case ADD:
                return a + b;
            case SUB:
                return a - b;
            case AND:
                return a & b;
            case MUL:
                return a * b;
            default:
                // HALF: the shift rounds down below 0 too, where a division would not.
                return a >> 1;
        }
    }

    private boolean holds(int condition) {
        switch (condition) {
            case 0:
                return true;
            case 1:
                return isZero();
            case 2:
                return !isZero();
            case 3:
                return isBelow();
            case 4:
                return !isBelow();
            default:
                return false;
        }
    }

    private static int belowZeroToo(int second) {
        return second < 128 ? second : second - 256;
    }

    /**
     * What a row keeps. A row has one for good and fills it again, so that running makes no objects.
     * No words means that nothing is kept: the place can't tell it, as a block may begin at -1.
     */
    private static final class Block {
        private final int[] words = new int[WORDS];
        private int begin;
        private int wordCount;
        private int byteCount;

        private boolean isKept() {
            return wordCount > 0;
        }

        private boolean beginsAt(int place) {
            return isKept() && begin == place;
        }

        private boolean hasByte(int at) {
            return isKept() && at >= begin && at < begin + byteCount;
        }

        private void empty(int newBegin) {
            begin = newBegin;
            wordCount = 0;
            byteCount = 0;
        }
    }
}
