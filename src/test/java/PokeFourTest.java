/** Promise 3. */
public final class PokeFourTest {
    public static void main(String[] args) {
        Due due = new Due();
        highestFirst(due);
        asFarAsMemoryGoes(due);
        throwsOutBlocks(due);
        refuses(due);
        due.end();
    }

    private static void bytes(Due due, BlockRows x, int at, int... want) {
        for (int i = 0; i < want.length; i++) {
            due.same("memory(" + (at + i) + ")", x.memory(at + i), want[i]);
        }
    }

    private static void highestFirst(Due due) {
        BlockRows x = new BlockRows();
        due.same("pokeFour(10, ..)", x.pokeFour(10, 0x01fe7f80), 4);
        bytes(due, x, 9, 0, 1, 254, 127, 128, 0);
        due.same("pokeFour(11, ..)", x.pokeFour(11, 0xff00aa55), 4);
        bytes(due, x, 9, 0, 1, 255, 0, 170, 85, 0);
        due.same("bytes written by STORE", x.count(5), 0);
    }

    private static void asFarAsMemoryGoes(Due due) {
        for (int at = 1018; at < 1024; at++) {
            BlockRows x = new BlockRows();
            int many = Math.min(4, 1024 - at);
            due.same("pokeFour(" + at + ", ..)", x.pokeFour(at, 0xf1f2f3f4), many);
            for (int i = 0; i < many; i++) {
                due.same("memory(" + (at + i) + ")", x.memory(at + i), 0xf1 + i);
            }
            bytes(due, x, 0, 0, 0, 0, 0);
            due.same("the byte before", x.memory(at - 1), 0);
        }
    }

    private static void throwsOutBlocks(Due due) {
        for (int at = 90; at < 110; at++) {
            BlockRows x = Due.machineAt(100, 0x10, 1, 0x11, 2, 0x00);
            x.run(1);
            due.row("kept", x, 4, 100, 3, 5);
            x.pokeFour(at, 0);
            boolean out = at + 3 >= 100 && at <= 104;
            due.same("kept after pokeFour(" + at + ", 0)", x.count(4), out ? 0 : 1);
            // All four bytes may lie in the block, which is thrown out but once.
            due.same("thrown out by pokeFour(" + at + ", 0)", x.count(3), out ? 1 : 0);
        }
    }

    private static void refuses(Due due) {
        BlockRows x = new BlockRows();
        String before = Due.all(x);
        due.noIndex("pokeFour(-1, -1)", () -> x.pokeFour(-1, -1));
        due.noIndex("pokeFour(-3, -1)", () -> x.pokeFour(-3, -1));
        due.noIndex("pokeFour(1024, -1)", () -> x.pokeFour(1024, -1));
        due.noIndex("pokeFour(MAX, -1)", () -> x.pokeFour(Integer.MAX_VALUE, -1));
        due.noIndex("pokeFour(MIN, -1)", () -> x.pokeFour(Integer.MIN_VALUE, -1));
        due.unchanged("after refused pokeFours", x, before);
    }
}
