/** Promise 8. */
public final class RegisterTest {
    public static void main(String[] args) {
        Due due = new Due();
        BlockRows x = Due.machineAt(30, 0x37, 0x06, 0x00);
        for (int r = 0; r < 8; r++) {
            x.set(r, 1000 + r);
        }
        x.set(7, 5);
        x.run(3);
        for (int r = 0; r < 7; r++) {
            due.same("register(" + r + ")", x.register(r), 1000 + r);
        }
        due.same("register(7)", x.register(7), 5 - 1006);
        due.machine("below 0, halted", x, 32, 0, 1, 1);
        String before = Due.all(x);
        due.noIndex("register(-1)", () -> x.register(-1));
        due.noIndex("register(12)", () -> x.register(12));
        due.noIndex("register(MAX)", () -> x.register(Integer.MAX_VALUE));
        due.noIndex("register(MIN)", () -> x.register(Integer.MIN_VALUE));
        due.unchanged("looking", x, before);
        due.end();
    }
}
