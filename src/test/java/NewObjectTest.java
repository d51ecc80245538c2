/** Promise 1. */
public final class NewObjectTest {
    public static void main(String[] args) {
        Due due = new Due();
        BlockRows x = new BlockRows();
        for (int at = 0; at < 1024; at++) {
            due.same("memory(" + at + ")", x.memory(at), 0);
        }
        for (int r = 0; r < 12; r++) {
            due.same("register(" + r + ")", x.register(r), 0);
        }
        for (int k = 0; k < 32; k++) {
            due.row("new", x, k, BlockRows.NONE, 0, 0);
        }
        due.counts("new", x, 0, 0, 0, 0, 0, 0, 0);
        due.same("forget()", x.forget(), 0);
        due.same("NONE", BlockRows.NONE, -1);
        twoObjectsShareNothing(due);
        due.end();
    }

    private static void twoObjectsShareNothing(Due due) {
        BlockRows other = new BlockRows();
        String before = Due.all(other);
        BlockRows x = Due.machineAt(7, 0x13, 5, 0x23, 0x03, 0x53, 0x03, 0x00);
        due.same("run(9)", x.run(9), 3);
        due.unchanged("after another object ran", other, before);
    }
}
