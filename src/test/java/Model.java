import java.util.ArrayList;
import java.util.Arrays;
import java.util.List;

/** The document once more, in another way: everything copied, searched and counted in the plainest form. */
final class Model {
    static final int[] BURST_AHEAD = {0, 16, 8, 24};

    static final class Head {
        int place = 8, speed, target, error, settled, written, struck, clock, x = 467;
        int[] learnt = new int[8];
        List<int[]> book = new ArrayList<>();

        Head copy() {
            Head c = new Head();
            c.place = place;
            c.speed = speed;
            c.target = target;
            c.error = error;
            c.settled = settled;
            c.written = written;
            c.struck = struck;
            c.clock = clock;
            c.x = x;
            c.learnt = learnt.clone();
            c.book = new ArrayList<>(book);
            return c;
        }

        void line(int what, int value) {
            book.add(new int[] {clock, what, value});
            if (book.size() > 25) {
                book.remove(0);
            }
        }
    }

    static final class World {
        Head head = new Head();
        List<Head> steps = new ArrayList<>();
        int[] wobble = new int[8];
        boolean[] lost = new boolean[8];
        List<ModelText> texts = new ArrayList<>();
        int ruling = -1;
        List<Integer> requests = new ArrayList<>();
        List<int[]> said = new ArrayList<>();

        World copy() {
            World c = new World();
            c.head = head.copy();
            for (Head h : steps) {
                c.steps.add(h.copy());
            }
            c.wobble = wobble.clone();
            c.lost = lost.clone();
            c.texts = new ArrayList<>(texts);
            c.ruling = ruling;
            c.requests = new ArrayList<>(requests);
            c.said = new ArrayList<>(said);
            return c;
        }

        void step() {
            steps.add(head.copy());
            if (steps.size() > 30) {
                steps.remove(0);
            }
        }
    }

    World w = new World();
    World image = new World();
    List<Integer> tape = new ArrayList<>();
    int[] fault;

    static boolean out(int v, int low, int high) {
        return v < low || v > high;
    }

    static int clip(long v, int low, int high) {
        return (int) (v < low ? low : v > high ? high : v);
    }

    // ---- told ----

    boolean wobble(int sector, int by) {
        if (out(sector, 0, 7) || out(by, -7, 7)) return false;
        w.wobble[sector] = by;
        return true;
    }

    boolean lose(int sector) {
        if (out(sector, 0, 7)) return false;
        w.lost[sector] = !w.lost[sector];
        return true;
    }

    int feed(int a, int b, int c, int d, int e) {
        if (tape.size() + 20 > 300) return -1;
        for (int v : new int[] {a, b, c, d, e}) {
            tape.add((v >> 24) & 255);
            tape.add((v >> 16) & 255);
            tape.add((v >> 8) & 255);
            tape.add(v & 255);
        }
        return tape.size();
    }

    int end(int n) {
        if (n < 0 || n > tape.size()) return -1;
        tape = new ArrayList<>(tape.subList(0, n));
        return n;
    }

    int text() {
        if (w.texts.size() == 4) return -1;
        List<Integer> read = tape;
        tape = new ArrayList<>();
        try {
            ModelText t = new ModelText(read);
            fault = new int[] {0, -1};
            w.texts.add(t);
            return w.texts.size() - 1;
        } catch (ModelText.Fault f) {
            fault = new int[] {f.number, f.place};
            return -1;
        }
    }

    int fault(int what) {
        return fault == null || out(what, 0, 1) ? -1 : fault[what];
    }

    boolean by(int text) {
        if (out(text, -1, w.texts.size() - 1)) return false;
        w.ruling = text;
        return true;
    }

    // ---- done ----

    boolean seek(int track) {
        if (out(track, 0, 63) || track == w.head.target) return false;
        w.step();
        sought(w.head, track);
        return true;
    }

    static void sought(Head h, int track) {
        h.target = track;
        h.settled = 0;
        h.line(0, track);
    }

    int shake(int by) {
        if (out(by, -40, 40) || by == 0) return -1;
        w.step();
        shaken(w.head, by);
        return w.head.place;
    }

    static void shaken(Head h, int by) {
        h.place = clip(h.place + by, 0, 1023);
        h.settled = 0;
        h.line(1, by);
    }

    int write() {
        if (w.head.settled < 3) return -1;
        w.step();
        written(w.head);
        return w.head.target;
    }

    static void written(Head h) {
        if (h.written < 9999) h.written++;
        h.line(2, h.target);
    }

    int day(int n) {
        if (out(n, 1, 60) || w.head.clock + n > 9999) return -1;
        for (int i = 0; i < n; i++) {
            w.step();
            sample(w.head);
        }
        return w.head.settled;
    }

    int played(int text) {
        if (out(text, 0, w.texts.size() - 1)) return -2;
        int number = 0;
        for (ModelText.Clause c : w.texts.get(text).clauses) {
            boolean done = true;
            if (c.word.equals("wobble")) done = wobble(c.a, c.b);
            if (c.word.equals("lose")) done = lose(c.a);
            if (c.word.equals("seek")) done = seek(c.a);
            if (c.word.equals("shake")) done = shake(c.a) >= 0;
            if (c.word.equals("write")) done = write() >= 0;
            if (c.word.equals("day")) {
                for (int i = 0; i < c.a; i++) done = day(1) >= 0;
            }
            if (!done) return number;
            number++;
        }
        return -1;
    }

    int years(int seed, int n) {
        if (out(seed, 0, 9999) || out(n, 1, 40)) return -1;
        w.step();
        Head h = w.head;
        h.x = seed * 2 + 467;
        for (int i = 0; i < n; i++) {
            int x = h.x;
            h.x = (h.x * 739 + 601) % 31069;
            int kind = x % 6;
            if (kind == 0 && x % 4 == 2 && (x / 6) % 64 != h.target) sought(h, (x / 6) % 64);
            if (kind == 1 && x % 4 == 3 && x % 11 - 5 != 0) shaken(h, x % 11 - 5);
            if (kind == 2 && h.settled >= 3) written(h);
            if (kind >= 3 && h.clock < 9999) sample(h);
        }
        return h.clock;
    }

    int undo() {
        if (w.steps.isEmpty()) return -1;
        w.head = w.steps.remove(w.steps.size() - 1);
        return w.steps.size();
    }

    ModelText law() {
        return w.ruling < 0 ? null : w.texts.get(w.ruling);
    }

    void sample(Head h) {
        int sector = h.clock % 8;
        if (!w.lost[sector]) {
            int d = h.x % 3;
            h.x = (h.x * 739 + 601) % 31069;
            int read = clip(h.place + w.wobble[sector] + d - 1, 0, 1023);
            int off = read - (16 * h.target + 8) - h.learnt[sector];
            h.error = clip(off, -999, 999);
            int gain = law() == null || law().learns == null ? 4 : clip(law().learns.value(h, off), 0, 16);
            h.learnt[sector] = clip(h.learnt[sector] + (off * gain) / 16, -99, 99);
        }
        h.speed = clip(h.speed + pullsBy(law(), h), -64, 64);
        int to = h.place + h.speed;
        if (to < 0 || to > 1023) {
            h.place = to < 0 ? 0 : 1023;
            h.speed = 0;
            if (h.struck < 9999) h.struck++;
            h.line(4, h.place);
        } else {
            h.place = to;
        }
        if (Math.abs(h.error) <= 3 && Math.abs(h.speed) <= 1) {
            if (h.settled < 99) {
                h.settled++;
                if (h.settled == 3) h.line(3, h.target);
            }
        } else {
            h.settled = 0;
        }
        h.clock++;
    }

    static int pullsBy(ModelText t, Head h) {
        if (t != null && t.pulls != null) return clip(t.pulls.value(h, 0), -9, 9);
        return clip(ModelText.bend(-h.error) - h.speed, -4, 4);
    }

    // ---- what is ----

    int of(int sector, int what) {
        if (out(sector, 0, 7) || out(what, 0, 2)) return -100;
        return what == 0 ? w.wobble[sector] : what == 1 ? w.head.learnt[sector] : w.lost[sector] ? 1 : 0;
    }

    int is(int what) {
        Head h = w.head;
        int[] all = {h.clock, h.x, h.place, h.speed, h.target, h.error, h.settled, h.written, h.struck};
        return out(what, 0, 8) ? -10000 : all[what];
    }

    int pulls() {
        return pullsBy(law(), w.head);
    }

    int book(int i, int what) {
        if (i == -1) return w.head.book.size();
        return out(i, 0, w.head.book.size() - 1) || out(what, 0, 2) ? -100 : w.head.book.get(i)[what];
    }

    int foretold(int n, int what) {
        if (out(n, 1, 60) || out(what, 0, 1)) return -1;
        Head h = w.head.copy();
        for (int i = 0; i < n; i++) {
            if (h.clock < 9999) sample(h);
        }
        return what == 0 ? h.place : h.settled;
    }

    int till(int track) {
        if (out(track, 0, 63)) return -1;
        Head h = w.head.copy();
        h.target = track;
        h.settled = 0;
        int n = 0;
        while (h.settled < 3) {
            if (n == 200) return -1;
            sample(h);
            n++;
        }
        return n;
    }

    // ---- codes ----

    int gray(int track) {
        return out(track, 0, 63) ? -1 : track ^ (track / 2);
    }

    int track(int code) {
        for (int t = 0; t < 64; t++) {
            if (gray(t) == code) return t;
        }
        return -1;
    }

    int burst(int place, int which) {
        if (out(place, 0, 1023) || out(which, 0, 3)) return -1;
        return Math.abs(16 - (place + BURST_AHEAD[which]) % 32);
    }

    int reads(int place, boolean other) {
        if (out(place, 0, 1023)) return -1;
        int own = place / 16;
        if (!other) return gray(own);
        for (int t = 0; t < 64; t++) {
            int nearest = t < own ? 16 * t + 15 : 16 * t;
            if (t != own && Math.abs(nearest - place) <= 4) return gray(t);
        }
        return -1;
    }

    List<Integer> places(int code, int... bursts) {
        List<Integer> all = new ArrayList<>();
        for (int p = 0; p < 1024; p++) {
            boolean fits = code == -1 || reads(p, false) == code || reads(p, true) == code;
            for (int i = 0; i < 4; i++) {
                fits = fits && (bursts[i] == -1 || bursts[i] == burst(p, i));
            }
            if (fits) all.add(p);
        }
        return all;
    }

    static boolean outBursts(int... bursts) {
        for (int b : bursts) {
            if (out(b, -1, 16)) return true;
        }
        return false;
    }

    int fit(int code, int a, int b, int c, int d) {
        if (out(code, 0, 63) || outBursts(a, b, c, d)) return -1;
        List<Integer> all = places(code, a, b, c, d);
        return all.isEmpty() ? -1 : all.get(0);
    }

    int fits(int code, int a, int b, int c, int d) {
        return out(code, 0, 63) || outBursts(a, b, c, d) ? -1 : places(code, a, b, c, d).size();
    }

    int unlike(int a, int b) {
        if (out(a, 0, 63) || out(b, 0, 63)) return -1;
        int n = 0;
        for (int bit = 1; bit < 64; bit *= 2) {
            if ((gray(a) & bit) != (gray(b) & bit)) n++;
        }
        return n;
    }

    int rim(int code, boolean high) {
        if (out(code, 0, 63)) return -1;
        List<Integer> all = places(code, -1, -1, -1, -1);
        return high ? all.get(all.size() - 1) : all.get(0);
    }

    int blind(int a, int b, int c, int d) {
        return outBursts(a, b, c, d) ? -1 : places(-1, a, b, c, d).size();
    }

    // ---- curves ----

    static int way(int speed, int pull) {
        int way = 0;
        for (int s = speed; s > 0; s = Math.max(0, s - pull)) way += s;
        return way;
    }

    static int curveOf(int far, int pull) {
        int s = 64;
        while (way(s, pull) > far) s--;
        return s;
    }

    int curve(int far, int pull) {
        return out(far, 0, 1023) || out(pull, 1, 9) ? -1 : curveOf(far, pull);
    }

    int stop(int speed, int pull) {
        return out(speed, 0, 64) || out(pull, 1, 9) ? -1 : way(speed, pull);
    }

    int needs(int speed, int far) {
        if (out(speed, 0, 64) || out(far, 0, 1023)) return -1;
        for (int p = 1; p <= 9; p++) {
            if (way(speed, p) <= far) return p;
        }
        return -1;
    }

    /** can[n][speed][left]: whether in just n SAMPLES from that SPEED just so far can be gone. */
    static boolean[][][] can(int far, int most) {
        boolean[][][] can = new boolean[far + 1][most + 1][far + 1];
        for (int n = 0; n <= far; n++) {
            for (int s = 0; s <= most; s++) {
                for (int left = 0; left <= far; left++) {
                    if (n == 0) can[n][s][left] = left == 0 && s <= 1;
                    for (int d = -1; d <= 1 && n > 0; d++) {
                        int v = s + d;
                        if (v >= 0 && v <= most && v <= left && can[n - 1][v][left - v]) can[n][s][left] = true;
                    }
                }
            }
        }
        return can;
    }

    static List<Integer> speeds(int far, int most) {
        boolean[][][] can = can(far, most);
        int n = 0;
        while (!can[n][0][far]) n++;
        List<Integer> plan = new ArrayList<>();
        int speed = 0;
        int left = far;
        while (n > 0) {
            int v = Math.max(0, speed - 1);
            while (v > left || !can[n - 1][v][left - v]) v++;
            plan.add(v);
            speed = v;
            left -= v;
            n--;
        }
        return plan;
    }

    int fewest(int far, int most) {
        return out(far, 0, 60) || out(most, 1, 9) ? -1 : speeds(far, most).size();
    }

    int plan(int far, int most, int i) {
        if (out(far, 0, 60) || out(most, 1, 9)) return -1;
        List<Integer> plan = speeds(far, most);
        return out(i, 0, plan.size() - 1) ? -1 : plan.get(i);
    }

    // ---- learning ----

    int learn(int off, int gain, int turns) {
        if (out(off, -99, 99) || out(gain, 0, 16) || out(turns, 0, 999)) return -1000;
        int l = 0;
        for (int i = 0; i < turns; i++) l = l + (off - l) * gain / 16;
        return l;
    }

    int rests(int off, int gain) {
        if (out(off, -99, 99) || out(gain, 0, 16)) return -1;
        int turns = 0;
        while (learn(off, gain, turns) != learn(off, gain, 999)) turns++;
        return turns;
    }

    int gain(int off) {
        if (out(off, -99, 99)) return -1;
        long best = Long.MAX_VALUE;
        for (int g = 0; g <= 16; g++) {
            long rank = Math.abs(off - learn(off, g, 999)) * 1000000L + rests(off, g) * 100L + g;
            best = Math.min(best, rank);
        }
        return (int) (best % 100);
    }

    // ---- requests ----

    int request(int track) {
        if (track == -1) {
            w.requests.clear();
            return 0;
        }
        if (out(track, 0, 63) || w.requests.size() == 6) return -2;
        w.requests.add(track);
        return w.requests.size();
    }

    int here() {
        return w.head.place / 16;
    }

    static void rows(List<Integer> left, List<Integer> row, List<List<Integer>> all) {
        if (left.isEmpty()) all.add(new ArrayList<>(row));
        for (int i = 0; i < left.size(); i++) {
            List<Integer> rest = new ArrayList<>(left);
            row.add(rest.remove(i));
            rows(rest, row, all);
            row.remove(row.size() - 1);
        }
    }

    static int length(int from, List<Integer> row) {
        int far = 0;
        int at = from;
        for (int t : row) {
            far += Math.abs(t - at);
            at = t;
        }
        return far;
    }

    int order(int i) {
        List<List<Integer>> all = new ArrayList<>();
        rows(w.requests, new ArrayList<>(), all);
        List<Integer> best = null;
        for (List<Integer> row : all) {
            int c = best == null ? -1 : Integer.compare(length(here(), row), length(here(), best));
            if (c < 0 || c == 0 && Arrays.compare(row.toArray(new Integer[0]), best.toArray(new Integer[0])) < 0) best = row;
        }
        if (i == -1) return length(here(), best);
        return out(i, 0, best.size() - 1) ? -2 : best.get(i);
    }

    int sweep(boolean up) {
        List<Integer> row = new ArrayList<>();
        int high = w.requests.stream().mapToInt(t -> t).max().orElse(here());
        int low = w.requests.stream().mapToInt(t -> t).min().orElse(here());
        if (high > here()) row.add(high);
        if (low < here()) row.add(up ? row.size() : 0, low);
        return length(here(), row);
    }

    int nearest() {
        List<Integer> left = new ArrayList<>(w.requests);
        List<Integer> row = new ArrayList<>();
        int at = here();
        while (!left.isEmpty()) {
            int best = -1;
            for (int t = 63; t >= 0; t--) {
                if (left.contains(t) && (best < 0 || Math.abs(t - at) <= Math.abs(best - at))) best = t;
            }
            left.remove((Integer) best);
            row.add(best);
            at = best;
        }
        return length(here(), row);
    }

    // ---- sectors ----

    int rest(int sector) {
        return w.wobble[sector] - w.head.learnt[sector];
    }

    List<Integer> sound() {
        List<Integer> all = new ArrayList<>();
        for (int s = 0; s < 8; s++) {
            if (!w.lost[s]) all.add(s);
        }
        return all;
    }

    int steady() {
        int bits = 0;
        for (int s : sound()) {
            if (Math.abs(rest(s)) <= 3) bits += 1 << s;
        }
        return bits;
    }

    int spread(boolean learnt) {
        int[] v = sound().stream().mapToInt(s -> learnt ? rest(s) : w.wobble[s]).sorted().toArray();
        return v.length == 0 ? 0 : v[v.length - 1] - v[0];
    }

    long mean(boolean low) {
        int n = sound().size();
        int sum = sound().stream().mapToInt(this::rest).sum();
        if (n == 0) return low ? 1 : 0;
        for (int d = 8; d > 1; d--) {
            if (sum % d == 0 && n % d == 0) {
                sum /= d;
                n /= d;
            }
        }
        return low ? n : sum;
    }

    int window(int sectors) {
        if (out(sectors, 1, 8)) return -1;
        int best = -1;
        int least = 1000;
        for (int first = 0; first < 8; first++) {
            int farthest = 0;
            for (int i = 0; i < sectors; i++) {
                int s = (first + i) % 8;
                farthest = Math.max(farthest, w.lost[s] ? 1000 : Math.abs(rest(s)));
            }
            if (farthest < least) {
                least = farthest;
                best = first;
            }
        }
        return best;
    }

    int longest() {
        int bits = steady();
        for (int n = 8; n > 0; n--) {
            for (int first = 0; first < 8; first++) {
                boolean all = true;
                for (int i = 0; i < n; i++) all = all && (bits >> (first + i) % 8 & 1) == 1;
                if (all) return n;
            }
        }
        return 0;
    }

    int lost() {
        int bits = 255;
        for (int s : sound()) bits -= 1 << s;
        return bits;
    }

    int far(int track) {
        return out(track, 0, 63) ? -10000 : w.head.place - (16 * track + 8);
    }

    int worst() {
        int worst = -1;
        for (int s : sound()) {
            if (worst < 0 || Math.abs(rest(s)) > Math.abs(rest(worst))) worst = s;
        }
        return worst;
    }

    // ---- laws, book, image ----

    int said(int error, int pulls) {
        if (error < -999) {
            w.said.clear();
            return 0;
        }
        if (error > 999 || out(pulls, -9, 9) || w.said.size() == 8) return -2;
        w.said.add(new int[] {error, pulls});
        return w.said.size();
    }

    int whose() {
        int bits = 0;
        for (int i = 0; i < w.texts.size(); i++) {
            boolean all = true;
            for (int[] s : w.said) {
                Head h = w.head.copy();
                h.error = s[0];
                all = all && pullsBy(w.texts.get(i), h) == s[1];
            }
            if (all) bits += 1 << i;
        }
        return bits;
    }

    int most(int what) {
        if (out(what, 0, 4)) return -100;
        int best = -100;
        int often = 0;
        for (int v = -100; v <= 1023; v++) {
            int n = 0;
            for (int[] line : w.head.book) {
                if (line[1] == what && line[2] == v) n++;
            }
            if (n > often) {
                often = n;
                best = v;
            }
        }
        return best;
    }

    int ledger(int what) {
        return out(what, 0, 4) ? -2 : (int) w.head.book.stream().filter(line -> line[1] == what).count();
    }

    int image() {
        image = w.copy();
        return w.head.clock;
    }

    int back() {
        w = image.copy();
        return w.head.clock;
    }

    int about(int what) {
        int[] all = {w.texts.size(), w.ruling, w.steps.size(), w.requests.size(), w.said.size(), tape.size()};
        return out(what, 0, 5) ? -2 : all[what];
    }
}
