/** Promise 7. */
public final class MemoryTest {
    public static void main(String[] args) {
        Due due = new Due();
        BlockRows x = new BlockRows();
        for (int at = 0; at < 1024; at++) {
            x.poke(at, at * 7 & 255);
        }
        for (int at = 0; at < 1024; at++) {
            due.same("memory(" + at + ")", x.memory(at), at * 7 & 255);
        }
        BlockRows stored = Due.machineAt(0, 0x50, 0x01, 0x00);
        stored.set(0, -2);
        stored.set(1, 700);
        stored.run(5);
        due.same("memory(700) behind a STORE", stored.memory(700), 254);
        String before = Due.all(stored);
        due.noIndex("memory(-1)", () -> stored.memory(-1));
        due.noIndex("memory(1024)", () -> stored.memory(1024));
        due.noIndex("memory(MAX)", () -> stored.memory(Integer.MAX_VALUE));
        due.noIndex("memory(MIN)", () -> stored.memory(Integer.MIN_VALUE));
        due.unchanged("looking", stored, before);
        due.end();
    }
}
