/** Promise 9. */
public final class RowTest {
    public static void main(String[] args) {
        Due due = new Due();
        everyRow(due);
        endsOfBlocks(due);
        refuses(due);
        due.end();
    }

    private static void everyRow(Due due) {
        BlockRows x = new BlockRows();
        for (int k = 0; k < 32; k++) {
            int place = 32 * (k % 31) + k;
            x.go(place);
            x.run(1);
            due.row("HALT at " + place, x, k, place, 1, 1);
            for (int later = k + 1; later < 32; later++) {
                due.row("not yet", x, later, BlockRows.NONE, 0, 0);
            }
        }
        due.same("kept", x.count(4), 32);
    }

    private static void block(Due due, int at, int words, int bytes, int... program) {
        BlockRows x = Due.machineAt(at, program);
        x.run(1);
        due.row("block at " + at, x, at & 31, at, words, bytes);
        due.same("words decoded", x.count(6), words);
    }

    private static void endsOfBlocks(Due due) {
        block(due, 100, 1, 1, 0x00);
        block(due, 100, 2, 3, 0x10, 0x00, 0x00);
        block(due, 100, 2, 4, 0x10, 0x00, 0x7f, 0x00, 0x10, 0x00);
        block(due, 100, 2, 2, 0xa0, 0xc1, 0x10);
        block(due, 100, 3, 4, 0xa0, 0x41, 0x00, 0xf0);
        block(due, 1022, 2, 2, 0x10, 0x00);
        block(due, 1022, 2, 2, 0xa0, 0x10);
        block(due, 1022, 3, 2, 0xa0, 0xa0);
        block(due, 1022, 2, 2, 0xa0, 0x00);
        block(due, 1023, 1, 1, 0x70);
        block(due, 1012, 12, 12, 0xa0, 0xa0, 0xa0, 0xa0, 0xa0, 0xa0, 0xa0, 0xa0, 0xa0, 0xa0, 0xa0, 0xa0);
        block(due, 1013, 12, 11, 0xa0, 0xa0, 0xa0, 0xa0, 0xa0, 0xa0, 0xa0, 0xa0, 0xa0, 0xa0, 0xa0);
    }

    private static void refuses(Due due) {
        BlockRows x = new BlockRows();
        x.run(1);
        String before = Due.all(x);
        int[][] wrong = {{-1, 0}, {32, 0}, {0, -1}, {0, 3}, {31, 3}, {-1, -1}, {32, 3},
            {Integer.MIN_VALUE, 0}, {Integer.MAX_VALUE, 1}, {0, Integer.MIN_VALUE}, {5, Integer.MAX_VALUE}};
        for (int[] pair : wrong) {
            due.noIndex("row(" + pair[0] + ", " + pair[1] + ")", () -> x.row(pair[0], pair[1]));
        }
        due.unchanged("looking", x, before);
    }
}
