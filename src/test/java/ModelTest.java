/**
 * All promises together: runs of 512 calls, the same for the class and for the plain model, which
 * must answer alike and show the same at each run's end. The numbers come from a fixed row.
 */
public final class ModelTest {
    private static final int RUNS = 3000;
    private static final int CALLS = 512;
    private static long seed = 20261115L;

    private static int below(int bound) {
        seed = seed * 6364136223846793005L + 1442695040888963407L;
        return (int) Math.floorMod(seed >>> 33, (long) bound);
    }

    public static void main(String[] args) {
        Due due = new Due();
        int[] seen = new int[5];
        int[] most = new int[7];
        for (int run = 0; run < RUNS; run++) {
            oneRun(due, run, seen, most);
        }
        for (int state = 0; state < 5; state++) {
            due.same("state " + state + " was often come to", seen[state] > 1000 ? 1 : 0, 1);
        }
        for (int what = 0; what < 7; what++) {
            due.same("count(" + what + ") was high once", most[what] > 20 ? 1 : 0, 1);
        }
        due.end();
    }

    private static void oneRun(Due due, int run, int[] seen, int[] most) {
        BlockRows x = new BlockRows();
        PlainModel m = new PlainModel();
        // Programs near 0, anywhere, or near the end of memory; short ones loop more.
        int span = 8 + below(run % 3 == 1 ? 1016 : 80);
        int from = run % 3 == 2 ? 1024 - span : 0;
        for (int call = 0; call < CALLS - 1; call++) {
            String name = "run " + run + ", call " + call;
            switch (call < 60 ? below(3) : below(12)) {
                case 0: case 1: {
                    int at = from + below(span);
                    int v = word();
                    due.same(name + " pokeFour", x.pokeFour(at, v), m.pokeFour(at, v));
                    break;
                }
                case 2: {
                    int r = below(8);
                    int v = number(from, span);
                    due.same(name + " set", x.set(r, v), m.set(r, v));
                    break;
                }
                case 3: {
                    int at = from + below(span);
                    int v = below(256);
                    due.same(name + " poke", x.poke(at, v), m.poke(at, v));
                    break;
                }
                case 4: case 5: {
                    int place = from + below(span);
                    due.same(name + " go", x.go(place), m.go(place));
                    break;
                }
                case 6: {
                    if (below(8) == 0) {
                        due.same(name + " forget", x.forget(), m.forget());
                    }
                    break;
                }
                case 7: {
                    look(due, name, x, m, from + below(span));
                    break;
                }
                default: {
                    int n = below(4) == 0 ? 1 + below(100) : 1 + below(12);
                    due.same(name + " run(" + n + ")", x.run(n), m.run(n));
                    int state = x.register(11);
                    due.same(name + " state", state, m.registers[11]);
                    seen[state]++;
                    break;
                }
            }
        }
        look(due, "run " + run + ", its end", x, m, 0);
        for (int at = 0; at < 1024; at++) {
            due.same("run " + run + " memory(" + at + ")", x.memory(at), m.memory[at]);
        }
        for (int what = 0; what < 7; what++) {
            most[what] = Math.max(most[what], x.count(what));
        }
    }

    /** Two words, for the most part of kinds that do something. */
    private static int word() {
        int first = below(8) == 0 ? below(256) : (1 + below(11)) << 4 | below(16);
        int third = below(8) == 0 ? below(256) : (1 + below(11)) << 4 | below(16);
        return first << 24 | second() << 16 | third << 8 | second();
    }

    private static int second() {
        return below(3) == 0 ? below(256) : below(3) == 0 ? 256 - below(40) : below(40);
    }

    private static int number(int from, int span) {
        switch (below(6)) {
            case 0:
                return below(Integer.MAX_VALUE) * 2 + below(2);
            case 1:
                return below(5) - 2;
            case 2:
                return 1020 + below(8);
            default:
                return from + below(span);
        }
    }

    private static void look(Due due, String name, BlockRows x, PlainModel m, int at) {
        due.same(name + " memory(" + at + ")", x.memory(at), m.memory[at]);
        for (int r = 0; r < 12; r++) {
            due.same(name + " register(" + r + ")", x.register(r), m.registers[r]);
        }
        for (int k = 0; k < 32; k++) {
            for (int what = 0; what < 3; what++) {
                due.same(name + " row(" + k + ", " + what + ")", x.row(k, what), m.row(k, what));
            }
        }
        for (int what = 0; what < 7; what++) {
            due.same(name + " count(" + what + ")", x.count(what), m.count(what));
        }
    }
}
