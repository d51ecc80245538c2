/** Promise 10. */
public final class ForgetTest {
    public static void main(String[] args) {
        Due due = new Due();
        BlockRows x = new BlockRows();
        due.same("forget() of none", x.forget(), 0);
        for (int place = 0; place < 32; place++) {
            x.go(place * 33 % 1024);
            x.run(1);
        }
        due.counts("32 kept", x, 0, 32, 0, 0, 32, 0, 32);
        due.same("forget()", x.forget(), 32);
        due.counts("all thrown out", x, 0, 32, 0, 32, 0, 0, 32);
        for (int k = 0; k < 32; k++) {
            due.row("forgotten", x, k, BlockRows.NONE, 0, 0);
        }
        due.same("forget() again", x.forget(), 0);
        due.same("thrown out", x.count(3), 32);
        keepsTheRest(due);
        due.end();
    }

    private static void keepsTheRest(Due due) {
        BlockRows x = Due.machineAt(10, 0x10, 3, 0x30, 0x00, 0x10, 4, 0x00);
        x.run(2);
        due.same("forget()", x.forget(), 1);
        due.machine("after forget()", x, 14, 1, 0, 0);
        due.same("memory(11)", x.memory(11), 3);
        due.same("run(9)", x.run(9), 1);
        due.same("register(0)", x.register(0), 4);
        due.counts("made anew", x, 3, 2, 0, 1, 1, 0, 4 + 2);
    }
}
