import java.util.ArrayList;
import java.util.Iterator;
import java.util.List;
import java.util.Map;
import java.util.Set;
import java.util.TreeMap;
import java.util.TreeSet;

/**
 * The document once more, written another way: each word is read from memory when it is done, a
 * block is nothing but the sets of its words' places and its bytes, and flags are set at once.
 */
final class PlainModel {
    static final class Kept {
        final int begin;
        final List<Integer> places = new ArrayList<>();
        final Set<Integer> bytes = new TreeSet<>();

        Kept(int begin) {
            this.begin = begin;
        }
    }

    final int[] memory = new int[1024];
    final int[] registers = new int[12];
    final Map<Integer, Kept> rows = new TreeMap<>();
    final int[] counts = new int[7];

    int poke(int at, int v) {
        int before = memory[at];
        written(at, v);
        return before;
    }

    int pokeFour(int at, int v) {
        int many = 0;
        for (int shift = 24; shift >= 0; shift -= 8) {
            if (at + many < 1024) {
                written(at + many, v >> shift & 255);
                many++;
            }
        }
        return many;
    }

    int set(int r, int v) {
        int before = registers[r];
        registers[r] = v;
        return before;
    }

    int go(int place) {
        int before = registers[8];
        registers[8] = place;
        registers[11] = 0;
        return before;
    }

    int forget() {
        int many = rows.size();
        rows.clear();
        counts[3] += many;
        return many;
    }

    int count(int what) {
        return what == 4 ? rows.size() : counts[what];
    }

    int row(int k, int what) {
        Kept kept = rows.get(k);
        if (kept == null) {
            return what == 0 ? -1 : 0;
        }
        return what == 0 ? kept.begin : what == 1 ? kept.places.size() : kept.bytes.size();
    }

    int run(int n) {
        int done = 0;
        Kept now = null;
        while (done < n && registers[11] == 0) {
            int place = registers[8];
            boolean goesOn = now != null && rows.containsValue(now) && place != now.begin
                    && now.places.contains(place) && inLine;
            if (!goesOn) {
                now = taken(place);
            }
            if (word()) {
                done++;
                counts[0]++;
            }
        }
        return done;
    }

    /** Whether the word last done was one behind which its block may go on. */
    private boolean inLine;

    private boolean inside(int at) {
        return at >= 0 && at <= 1023;
    }

    private int bytesOf(int place) {
        int kind = memory[place] / 16;
        return kind == 0 || kind == 10 || kind > 11 ? 1 : 2;
    }

    private Kept taken(int place) {
        int k = Math.floorMod(place, 32);
        Kept kept = rows.get(k);
        if (kept != null && kept.begin == place) {
            counts[2]++;
            return kept;
        }
        kept = new Kept(place);
        boolean more = true;
        int at = place;
        while (more && kept.places.size() < 12) {
            kept.places.add(at);
            more = inside(at);
            if (more) {
                int kind = memory[at] / 16;
                int long_ = bytesOf(at);
                for (int i = 0; i < long_; i++) {
                    if (inside(at + i)) {
                        kept.bytes.add(at + i);
                    } else {
                        more = false;
                    }
                }
                more = more && kind != 0 && kind != 7 && kind < 12;
                at += long_;
            }
        }
        rows.put(k, kept);
        counts[1]++;
        counts[6] += kept.places.size();
        return kept;
    }

    private void written(int at, int v) {
        memory[at] = v;
        Iterator<Kept> all = rows.values().iterator();
        while (all.hasNext()) {
            if (all.next().bytes.contains(at)) {
                all.remove();
                counts[3]++;
            }
        }
    }

    private boolean stops(int state) {
        registers[11] = state;
        return false;
    }

    private void result(long v) {
        registers[9] = (int) v == 0 ? 1 : 0;
        registers[10] = (int) v < 0 ? 1 : 0;
    }

    private boolean word() {
        int place = registers[8];
        if (!inside(place) || !inside(place + bytesOf(place) - 1)) {
            return stops(4);
        }
        int kind = memory[place] / 16;
        int condition = memory[place] % 16;
        int r = memory[place] % 8;
        int n = bytesOf(place) == 2 ? (byte) memory[place + 1] : 0;
        int s = n & 7;
        long a = registers[r];
        long b = registers[s];
        if (kind == 0) {
            return stops(1);
        }
        if (kind > 11) {
            return stops(3);
        }
        if ((kind == 4 || kind == 5) && (b < 0 || b > 1023)) {
            return stops(2);
        }
        registers[8] += bytesOf(place);
        inLine = kind != 7;
        long v = kind == 2 ? a + b : kind == 3 || kind == 11 ? a - b : kind == 6 ? a & b
                : kind == 9 ? a * b : kind == 10 ? Math.floorDiv(a, 2L) : 0;
        if (kind == 2 || kind == 3 || kind == 6 || kind >= 9) {
            result(v);
        }
        if (kind == 2 || kind == 3 || kind == 6 || kind == 9 || kind == 10) {
            registers[r] = (int) v;
        }
        if (kind == 1) {
            registers[r] = n;
        }
        if (kind == 4) {
            registers[r] = memory[(int) b];
        }
        if (kind == 5) {
            counts[5]++;
            written((int) b, (int) a & 255);
        }
        if (kind == 8) {
            registers[r] = (int) b;
        }
        boolean[] holds = {true, registers[9] == 1, registers[9] == 0, registers[10] == 1, registers[10] == 0};
        if (kind == 7 && condition < 5 && holds[condition]) {
            registers[8] += n;
        }
        return true;
    }
}
