/**
 * The servo of a disk's head over sixty-four tracks. ../shared/DOC.md says what each member answers;
 * the words in capitals in the comments are that document's terms.
 */
public final class HeadServo {
    public static final int NONE = -1;

    private static final int TRACKS = 64;
    private static final int WIDTH = 16;
    private static final int LAST_PLACE = 1023;
    private static final int SECTORS = 8;
    private static final int LAST_CLOCK = 9999;
    private static final int MOST_SPEED = 64;
    private static final int MOST_ERROR = 999;
    private static final int MOST_LEARNT = 99;
    private static final int MOST_GAIN = 16;
    private static final int MOST_TURNS = 999;
    private static final int GATE = 3;
    private static final int MOST_DAYS = 60;
    private static final int MOST_SHAKE = 40;
    private static final int PATIENCE = 200;
    private static final int MOST_FAR = 60;
    private static final int MOST_PLANNED = 9;

    private static final int SOUGHT = 0;
    private static final int SHAKEN = 1;
    private static final int WRITTEN = 2;
    private static final int AT_REST = 3;
    private static final int STRUCK = 4;
    private static final int BOOK_LINES = 25;
    private static final int LINE = 3;

    private static final int STEPS = 30;
    private static final int TEXTS = 4;
    private static final int TAPE = 300;
    private static final int CLAUSES = 24;
    private static final int DEPTH = 8;
    private static final int MOST_NUMBER = 9999;
    private static final int MOST_VALUE = 1000000;
    private static final int STACK = 64;
    private static final int REQUESTS = 6;
    private static final int MOST_SAID = 8;

    // The TOKENS: words bear their places in WORDS, signs and the rest follow.
    private static final String WORDS = "pulls learns wobble lose seek shake write day by curve learnt if then else end not and or clock sector speed error target settled off ";
    private static final int PULLS = 0;
    private static final int LEARNS = 1;
    private static final int WOBBLE = 2;
    private static final int LOSE = 3;
    private static final int SEEK = 4;
    private static final int SHAKE = 5;
    private static final int WRITE = 6;
    private static final int DAY = 7;
    private static final int BY = 8;
    private static final int CURVE = 9;
    private static final int LEARNT = 10;
    private static final int IF = 11;
    private static final int THEN = 12;
    private static final int ELSE = 13;
    private static final int END = 14;
    private static final int NOT = 15;
    private static final int AND = 16;
    private static final int OR = 17;
    private static final int CLOCK = 18;
    private static final int SECTOR = 19;
    private static final int SPEED = 20;
    private static final int ERROR = 21;
    private static final int TARGET = 22;
    private static final int SETTLED = 23;
    private static final int OFF = 24;
    private static final int LESS = 25;
    private static final int AT_MOST = 26;
    private static final int MORE = 27;
    private static final int AT_LEAST = 28;
    private static final int SAME = 29;
    private static final int UNLIKE = 30;
    private static final int PLUS = 31;
    private static final int MINUS = 32;
    private static final int TIMES = 33;
    private static final int OVER = 34;
    private static final int OPEN = 35;
    private static final int CLOSE = 36;
    private static final int STOP = 37;
    private static final int NUMBER = 38;
    private static final int AFTER = 39;
    private static final int STRANGE = 40;
    // An instruction's alone: the - of one ONE, as MINUS is that between two.
    private static final int TURN = 41;
    private static final int OP_BITS = 6;
    private static final int OP_MASK = 63;

    private final All now = new All();
    private final All kept = new All();
    private final Text[] texts = new Text[TEXTS];
    private final Head trial = new Head();
    private final Reader reader = new Reader();
    private final Machine machine = new Machine();
    private final Route route = new Route();
    private final int[] fewestFrom = new int[(MOST_PLANNED + 1) * (MOST_FAR + 1)];
    private final int[] tape = new int[TAPE];
    private int tapeLength = 0;
    private boolean everRead = false;

    public HeadServo() {
        for (int i = 0; i < TEXTS; i++) {
            texts[i] = new Text();
        }
    }

    // ---- what is told ----

    public boolean wobble(int sector, int by) {
        if (!within(sector, 0, SECTORS - 1) || !within(by, -7, 7)) {
            return false;
        }
        now.wobble[sector] = by;
        return true;
    }

    public boolean lose(int sector) {
        if (!within(sector, 0, SECTORS - 1)) {
            return false;
        }
        now.lostBits ^= 1 << sector;
        return true;
    }

    public int feed(int a, int b, int c, int d, int e) {
        if (tapeLength > TAPE - 20) {
            return NONE;
        }
        feedFour(a);
        feedFour(b);
        feedFour(c);
        feedFour(d);
        feedFour(e);
        return tapeLength;
    }

    private void feedFour(int four) {
        for (int shift = 24; shift >= 0; shift -= 8) {
            if (within(tapeLength, 0, TAPE - 1)) {
                tape[tapeLength] = four >>> shift & 255;
                tapeLength++;
            }
        }
    }

    public int end(int n) {
        if (!within(n, 0, tapeLength)) {
            return NONE;
        }
        tapeLength = n;
        return n;
    }

    public int text() {
        // The slot behind the last TEXT is no image's: an image has at most as many TEXTS as there are now.
        int slot = now.textCount;
        if (!within(slot, 0, TEXTS - 1)) {
            return NONE;
        }
        everRead = true;
        boolean sound = reader.readTape(tape, tapeLength, texts[slot]);
        tapeLength = 0;
        if (!sound) {
            return NONE;
        }
        now.textCount++;
        return slot;
    }

    public int fault(int what) {
        if (!everRead) {
            return NONE;
        }
        switch (what) {
            case 0: return reader.fault;
            case 1: return reader.faultPlace;
            default: return NONE;
        }
    }

    public boolean by(int text) {
        if (text != NONE && textAt(text) == null) {
            return false;
        }
        now.ruling = text;
        return true;
    }

    private Text textAt(int number) {
        if (!within(number, 0, TEXTS - 1) || number >= now.textCount) {
            return null;
        }
        return texts[number];
    }

    // ---- what is done ----

    public boolean seek(int track) {
        if (!isTrack(track) || track == now.head.target) {
            return false;
        }
        now.steps.keep(now.head);
        now.head.aim(track);
        return true;
    }

    public int shake(int by) {
        if (!within(by, -MOST_SHAKE, MOST_SHAKE) || by == 0) {
            return NONE;
        }
        now.steps.keep(now.head);
        now.head.nudge(by);
        return now.head.place;
    }

    public int write() {
        if (!now.head.gateOpen()) {
            return NONE;
        }
        now.steps.keep(now.head);
        now.head.mark();
        return now.head.target;
    }

    public int day(int n) {
        if (!within(n, 1, MOST_DAYS) || now.head.clock > LAST_CLOCK - n) {
            return NONE;
        }
        pass(n);
        return now.head.settled;
    }

    private void pass(int samples) {
        for (int i = 0; i < samples; i++) {
            now.steps.keep(now.head);
            sample(now.head);
        }
    }

    public int played(int text) {
        Text script = textAt(text);
        if (script == null) {
            return -2;
        }
        for (int i = 0; i < script.clauses && i < CLAUSES; i++) {
            if (!playClause(script.kinds[i], script.firsts[i], script.seconds[i])) {
                return i;
            }
        }
        return NONE;
    }

    private boolean playClause(int kind, int first, int second) {
        switch (kind) {
            case WOBBLE: return wobble(first, second);
            case LOSE: return lose(first);
            case SEEK: return seek(first);
            case SHAKE: return shake(first) != NONE;
            case WRITE: return write() != NONE;
            case DAY: {
                int can = Math.min(first, LAST_CLOCK - now.head.clock);
                pass(can);
                return can == first;
            }
            default: return true;
        }
    }

    public int years(int seed, int n) {
        if (!within(seed, 0, 9999) || !within(n, 1, 40)) {
            return NONE;
        }
        now.steps.keep(now.head);
        now.head.x = seed * 2 + 467;
        for (int i = 0; i < n; i++) {
            happen(now.head, now.head.draw());
        }
        return now.head.clock;
    }

    private void happen(Head head, int x) {
        switch (x % 6) {
            case 0:
                if (x % 4 == 2 && x / 6 % TRACKS != head.target) {
                    head.aim(x / 6 % TRACKS);
                }
                break;
            case 1:
                if (x % 4 == 3 && x % 11 != 5) {
                    head.nudge(x % 11 - 5);
                }
                break;
            case 2:
                if (head.gateOpen()) {
                    head.mark();
                }
                break;
            default:
                if (head.clock < LAST_CLOCK) {
                    sample(head);
                }
                break;
        }
    }

    public int undo() {
        if (!now.steps.giveBack(now.head)) {
            return NONE;
        }
        return now.steps.count;
    }

    private void sample(Head head) {
        int sector = head.sectorNow();
        Text law = textAt(now.ruling);
        if (!isLost(sector)) {
            int drawn = head.draw() % 3;
            int read = hold(head.place + wobbleOf(sector) + drawn - 1, 0, LAST_PLACE);
            int off = read - middle(head.target) - head.learntOf(sector);
            head.error = hold(off, -MOST_ERROR, MOST_ERROR);
            head.addLearnt(sector, off * gainOf(law, head, off) / MOST_GAIN);
        }
        head.move(pullOf(law, head));
    }

    private int pullOf(Text law, Head head) {
        if (law == null || law.pullsFrom == NONE) {
            return hold(speedOver(-head.error, 1) - head.speed, -4, 4);
        }
        return hold(machine.work(law, law.pullsFrom, law.pullsTo, head, 0), -9, 9);
    }

    private int gainOf(Text law, Head head, int off) {
        if (law == null || law.learnsFrom == NONE) {
            return 4;
        }
        return hold(machine.work(law, law.learnsFrom, law.learnsTo, head, off), 0, MOST_GAIN);
    }

    // ---- what is ----

    public int of(int sector, int what) {
        if (!within(sector, 0, SECTORS - 1)) {
            return -100;
        }
        switch (what) {
            case 0: return wobbleOf(sector);
            case 1: return now.head.learntOf(sector);
            case 2: return isLost(sector) ? 1 : 0;
            default: return -100;
        }
    }

    public int is(int what) {
        Head head = now.head;
        switch (what) {
            case 0: return head.clock;
            case 1: return head.x;
            case 2: return head.place;
            case 3: return head.speed;
            case 4: return head.target;
            case 5: return head.error;
            case 6: return head.settled;
            case 7: return head.written;
            case 8: return head.struck;
            default: return -10000;
        }
    }

    public int pulls() {
        return pullOf(textAt(now.ruling), now.head);
    }

    public int book(int i, int what) {
        if (i == NONE) {
            return now.head.lineCount;
        }
        if (!within(i, 0, now.head.lineCount - 1) || !within(what, 0, LINE - 1)) {
            return -100;
        }
        return now.head.inLine(i, what);
    }

    public int foretold(int n, int what) {
        if (!within(n, 1, MOST_DAYS) || !within(what, 0, 1)) {
            return NONE;
        }
        trial.copyFrom(now.head);
        for (int i = 0; i < n && trial.clock < LAST_CLOCK; i++) {
            sample(trial);
        }
        return what == 0 ? trial.place : trial.settled;
    }

    public int till(int track) {
        if (!isTrack(track)) {
            return NONE;
        }
        trial.copyFrom(now.head);
        trial.aim(track);
        for (int passed = 1; passed <= PATIENCE; passed++) {
            sample(trial);
            if (trial.gateOpen()) {
                return passed;
            }
        }
        return NONE;
    }

    // ---- codes and bursts ----

    public int gray(int track) {
        return isTrack(track) ? codeOf(track) : NONE;
    }

    public int track(int code) {
        return isTrack(code) ? trackOf(code) : NONE;
    }

    public int burst(int place, int which) {
        if (!within(place, 0, LAST_PLACE) || !within(which, 0, 3)) {
            return NONE;
        }
        return burstAt(place, which);
    }

    public int reads(int place, boolean other) {
        if (!within(place, 0, LAST_PLACE)) {
            return NONE;
        }
        if (!other) {
            return codeOf(place / WIDTH);
        }
        int beside = besideOf(place);
        return isTrack(beside) ? codeOf(beside) : NONE;
    }

    public int fit(int code, int a, int b, int c, int d) {
        if (!isTrack(code) || !areBursts(a, b, c, d)) {
            return NONE;
        }
        int track = trackOf(code);
        for (int place = lowRim(track); place <= highRim(track); place++) {
            if (bearsBursts(place, a, b, c, d)) {
                return place;
            }
        }
        return NONE;
    }

    public int fits(int code, int a, int b, int c, int d) {
        if (!isTrack(code) || !areBursts(a, b, c, d)) {
            return NONE;
        }
        int track = trackOf(code);
        return countBearing(lowRim(track), highRim(track), a, b, c, d);
    }

    public int unlike(int a, int b) {
        if (!isTrack(a) || !isTrack(b)) {
            return NONE;
        }
        return Integer.bitCount(codeOf(a) ^ codeOf(b));
    }

    public int rim(int code, boolean high) {
        if (!isTrack(code)) {
            return NONE;
        }
        return high ? highRim(trackOf(code)) : lowRim(trackOf(code));
    }

    public int blind(int a, int b, int c, int d) {
        if (!areBursts(a, b, c, d)) {
            return NONE;
        }
        return countBearing(0, LAST_PLACE, a, b, c, d);
    }

    private static int codeOf(int track) {
        return track ^ track >> 1;
    }

    private static int trackOf(int code) {
        int track = code;
        for (int shift = 1; shift < 6; shift++) {
            track ^= code >> shift;
        }
        return track;
    }

    private static int burstAt(int place, int which) {
        // 0, 16, 8, 24: the bits of which, turned round.
        int ahead = (which & 1) * 16 + (which >> 1) * 8;
        return Math.abs(16 - (place + ahead) % 32);
    }

    // The TRACK whose CODE is read there, too, or one that is none.
    private static int besideOf(int place) {
        int inTrack = place % WIDTH;
        if (inTrack < 4) {
            return place / WIDTH - 1;
        }
        return inTrack >= WIDTH - 4 ? place / WIDTH + 1 : NONE;
    }

    private static int lowRim(int track) {
        return Math.max(0, track * WIDTH - 4);
    }

    private static int highRim(int track) {
        return Math.min(LAST_PLACE, track * WIDTH + WIDTH - 1 + 4);
    }

    private static boolean areBursts(int a, int b, int c, int d) {
        return within(a, NONE, 16) && within(b, NONE, 16) && within(c, NONE, 16) && within(d, NONE, 16);
    }

    private static boolean bearsBursts(int place, int a, int b, int c, int d) {
        return (a == NONE || a == burstAt(place, 0)) && (b == NONE || b == burstAt(place, 1))
                && (c == NONE || c == burstAt(place, 2)) && (d == NONE || d == burstAt(place, 3));
    }

    private static int countBearing(int low, int high, int a, int b, int c, int d) {
        int count = 0;
        for (int place = low; place <= high; place++) {
            if (bearsBursts(place, a, b, c, d)) {
                count++;
            }
        }
        return count;
    }

    // ---- stopping curves and plans ----

    public int curve(int far, int pull) {
        if (!within(far, 0, LAST_PLACE) || !within(pull, 1, 9)) {
            return NONE;
        }
        return speedOver(far, pull);
    }

    public int stop(int speed, int pull) {
        if (!within(speed, 0, MOST_SPEED) || !within(pull, 1, 9)) {
            return NONE;
        }
        return wayToStop(speed, pull);
    }

    public int needs(int speed, int far) {
        if (!within(speed, 0, MOST_SPEED) || !within(far, 0, LAST_PLACE)) {
            return NONE;
        }
        for (int pull = 1; pull <= 9; pull++) {
            if (wayToStop(speed, pull) <= far) {
                return pull;
            }
        }
        return NONE;
    }

    public int fewest(int far, int most) {
        if (!within(far, 0, MOST_FAR) || !within(most, 1, MOST_PLANNED)) {
            return NONE;
        }
        findFewest(far, most);
        return fewestOf(0, far);
    }

    public int plan(int far, int most, int i) {
        int samples = fewest(far, most);
        if (!within(i, 0, samples - 1)) {
            return NONE;
        }
        int speed = 0;
        int left = far;
        for (int done = 0; done <= i; done++) {
            speed = lowestNext(speed, left, most);
            left -= speed;
        }
        return speed;
    }

    // A CURVE, of a far below 0 as the language has it: turned.
    private static int speedOver(int far, int pull) {
        int way = Math.min(Math.abs(far), LAST_PLACE);
        int speed = 0;
        for (int more = MOST_SPEED; more > 0; more /= 2) {
            if (speed + more <= MOST_SPEED && wayToStop(speed + more, pull) <= way) {
                speed += more;
            }
        }
        return far < 0 ? -speed : speed;
    }

    private static int wayToStop(int speed, int pull) {
        if (speed <= 0 || pull <= 0) {
            return 0;
        }
        // A sum of speeds, each less by the pull: a law may ask for it so often that a loop would be dear.
        int samples = (speed - 1) / pull + 1;
        return samples * speed - pull * (samples * (samples - 1) / 2);
    }

    // For each SPEED and each way left up to far: the fewest SAMPLES till the head is there, at rest.
    private void findFewest(int far, int most) {
        for (int left = 0; left <= far; left++) {
            for (int speed = 0; speed <= most; speed++) {
                int place = fewestPlace(speed, left);
                if (place != NONE) {
                    fewestFrom[place] = left == 0 && speed <= 1 ? 0 : leastOfNext(speed, left, most) + 1;
                }
            }
        }
    }

    private int leastOfNext(int speed, int left, int most) {
        int least = LAST_CLOCK;
        for (int next = speed - 1; next <= speed + 1; next++) {
            // To stay at rest never helps, and isn't known yet while it is looked for.
            boolean stays = speed == 0 && next == 0;
            if (!stays && within(next, 0, most) && next <= left) {
                least = Math.min(least, fewestOf(next, left - next));
            }
        }
        return least;
    }

    private int lowestNext(int speed, int left, int most) {
        int least = fewestOf(speed, left);
        for (int next = speed - 1; next <= speed + 1; next++) {
            if (within(next, 0, most) && next <= left && fewestOf(next, left - next) == least - 1) {
                return next;
            }
        }
        return 0;
    }

    private int fewestOf(int speed, int left) {
        int place = fewestPlace(speed, left);
        return place == NONE ? LAST_CLOCK : fewestFrom[place];
    }

    private static int fewestPlace(int speed, int left) {
        if (!within(speed, 0, MOST_PLANNED) || !within(left, 0, MOST_FAR)) {
            return NONE;
        }
        return speed * (MOST_FAR + 1) + left;
    }

    // ---- learning ----

    public int learn(int off, int gain, int turns) {
        if (!areOffAndGain(off, gain) || !within(turns, 0, MOST_TURNS)) {
            return -1000;
        }
        return learntBehind(off, gain, turns);
    }

    public int rests(int off, int gain) {
        return areOffAndGain(off, gain) ? restOf(off, gain) : NONE;
    }

    public int gain(int off) {
        if (!areOffAndGain(off, 0)) {
            return NONE;
        }
        int best = 0;
        for (int gain = 1; gain <= MOST_GAIN; gain++) {
            int left = leftAtLast(off, gain);
            int bestLeft = leftAtLast(off, best);
            if (left < bestLeft || left == bestLeft && restOf(off, gain) < restOf(off, best)) {
                best = gain;
            }
        }
        return best;
    }

    private static boolean areOffAndGain(int off, int gain) {
        return within(off, -MOST_LEARNT, MOST_LEARNT) && within(gain, 0, MOST_GAIN);
    }

    private static int learntBehind(int off, int gain, int turns) {
        int learnt = 0;
        for (int turn = 0; turn < turns; turn++) {
            learnt += (off - learnt) * gain / MOST_GAIN;
        }
        return learnt;
    }

    private static int restOf(int off, int gain) {
        int learnt = 0;
        for (int turn = 0; turn < MOST_TURNS; turn++) {
            int more = (off - learnt) * gain / MOST_GAIN;
            if (more == 0) {
                return turn;
            }
            learnt += more;
        }
        return MOST_TURNS;
    }

    private static int leftAtLast(int off, int gain) {
        return Math.abs(off - learntBehind(off, gain, restOf(off, gain)));
    }

    // ---- requests ----

    public int request(int track) {
        if (track == NONE) {
            now.requestCount = 0;
            return 0;
        }
        if (!isTrack(track) || !within(now.requestCount, 0, REQUESTS - 1)) {
            return -2;
        }
        now.requests[now.requestCount] = track;
        now.requestCount++;
        return now.requestCount;
    }

    public int order(int i) {
        if (i != NONE && !within(i, 0, now.requestCount - 1)) {
            return -2;
        }
        route.find(now.head.place / WIDTH, now.requests, now.requestCount);
        return i == NONE ? route.leastFar : route.rowAt(i);
    }

    public int sweep(boolean up) {
        int from = now.head.place / WIDTH;
        int high = from;
        int low = from;
        for (int i = 0; i < now.requestCount && i < REQUESTS; i++) {
            high = Math.max(high, now.requests[i]);
            low = Math.min(low, now.requests[i]);
        }
        int first = up ? high - from : from - low;
        boolean turns = up ? low < from : high > from;
        return turns ? first + high - low : first;
    }

    public int nearest() {
        int at = now.head.place / WIDTH;
        int far = 0;
        int served = 0;
        for (int turn = 0; turn < now.requestCount && turn < REQUESTS; turn++) {
            int next = nearestOf(at, served);
            if (next != NONE) {
                far += Math.abs(now.requests[next] - at);
                at = now.requests[next];
                served |= 1 << next;
            }
        }
        return far;
    }

    private int nearestOf(int at, int served) {
        int best = NONE;
        for (int i = 0; i < now.requestCount && i < REQUESTS; i++) {
            if ((served >> i & 1) == 0 && (best == NONE || isNearer(now.requests[i], now.requests[best], at))) {
                best = i;
            }
        }
        return best;
    }

    private static boolean isNearer(int track, int than, int at) {
        int far = Math.abs(track - at);
        int thanFar = Math.abs(than - at);
        return far < thanFar || far == thanFar && track < than;
    }

    // ---- sectors ----

    public int steady() {
        int bits = 0;
        for (int sector = 0; sector < SECTORS; sector++) {
            if (isSteady(sector)) {
                bits |= 1 << sector;
            }
        }
        return bits;
    }

    public int spread(boolean learnt) {
        boolean any = false;
        int low = 0;
        int high = 0;
        for (int sector = 0; sector < SECTORS; sector++) {
            if (!isLost(sector)) {
                int value = learnt ? leftOf(sector) : wobbleOf(sector);
                low = any ? Math.min(low, value) : value;
                high = any ? Math.max(high, value) : value;
                any = true;
            }
        }
        return high - low;
    }

    public long mean(boolean low) {
        int sum = 0;
        int count = 0;
        for (int sector = 0; sector < SECTORS; sector++) {
            if (!isLost(sector)) {
                sum += leftOf(sector);
                count++;
            }
        }
        if (count == 0) {
            return low ? 1L : 0L;
        }
        int common = commonDivisor(count, Math.abs(sum));
        if (common == 0) {
            return NONE;
        }
        return low ? count / common : sum / common;
    }

    private static int commonDivisor(int a, int b) {
        int greater = a;
        int rest = b;
        for (int i = 0; i < 64 && rest != 0; i++) {
            int next = greater % rest;
            greater = rest;
            rest = next;
        }
        return greater;
    }

    public int window(int sectors) {
        if (!within(sectors, 1, SECTORS)) {
            return NONE;
        }
        int best = NONE;
        int bestFarthest = 0;
        for (int first = 0; first < SECTORS; first++) {
            int farthest = farthestIn(first, sectors);
            if (farthest != NONE && (best == NONE || farthest < bestFarthest)) {
                best = first;
                bestFarthest = farthest;
            }
        }
        return best;
    }

    private int farthestIn(int first, int sectors) {
        int farthest = 0;
        for (int i = 0; i < sectors; i++) {
            int sector = (first + i) % SECTORS;
            if (isLost(sector)) {
                return NONE;
            }
            farthest = Math.max(farthest, Math.abs(leftOf(sector)));
        }
        return farthest;
    }

    public int longest() {
        int best = 0;
        int row = 0;
        // Twice around, so that a row over the last SECTOR and the first is seen whole.
        for (int i = 0; i < 2 * SECTORS; i++) {
            row = isSteady(i % SECTORS) ? row + 1 : 0;
            best = Math.max(best, row);
        }
        return Math.min(best, SECTORS);
    }

    public int lost() {
        return now.lostBits;
    }

    public int far(int track) {
        return isTrack(track) ? now.head.place - middle(track) : -10000;
    }

    public int worst() {
        int worst = NONE;
        for (int sector = 0; sector < SECTORS; sector++) {
            if (!isLost(sector) && (worst == NONE || Math.abs(leftOf(sector)) > Math.abs(leftOf(worst)))) {
                worst = sector;
            }
        }
        return worst;
    }

    private boolean isSteady(int sector) {
        return !isLost(sector) && within(leftOf(sector), -3, 3);
    }

    private boolean isLost(int sector) {
        return (now.lostBits >> sector & 1) == 1;
    }

    private int wobbleOf(int sector) {
        return within(sector, 0, SECTORS - 1) ? now.wobble[sector] : 0;
    }

    private int leftOf(int sector) {
        return wobbleOf(sector) - now.head.learntOf(sector);
    }

    // ---- whose law ----

    public int said(int error, int pulls) {
        if (error < -MOST_ERROR) {
            now.saidCount = 0;
            return 0;
        }
        if (error > MOST_ERROR || !within(pulls, -9, 9) || !within(now.saidCount, 0, MOST_SAID - 1)) {
            return -2;
        }
        now.saidErrors[now.saidCount] = error;
        now.saidPulls[now.saidCount] = pulls;
        now.saidCount++;
        return now.saidCount;
    }

    public int whose() {
        trial.copyFrom(now.head);
        int bits = 0;
        for (int i = 0; i < now.textCount && i < TEXTS; i++) {
            if (saysAll(textAt(i))) {
                bits |= 1 << i;
            }
        }
        return bits;
    }

    private boolean saysAll(Text law) {
        for (int i = 0; i < now.saidCount && i < MOST_SAID; i++) {
            trial.error = now.saidErrors[i];
            if (pullOf(law, trial) != now.saidPulls[i]) {
                return false;
            }
        }
        return true;
    }

    // ---- the book, the image ----

    public int most(int what) {
        if (!within(what, SOUGHT, STRUCK)) {
            return -100;
        }
        int best = -100;
        int bestOften = 0;
        for (int i = 0; i < now.head.lineCount; i++) {
            if (now.head.inLine(i, 1) == what) {
                int value = now.head.inLine(i, 2);
                int often = now.head.linesWith(what, value);
                if (often > bestOften || often == bestOften && value < best) {
                    best = value;
                    bestOften = often;
                }
            }
        }
        return best;
    }

    public int ledger(int what) {
        if (!within(what, SOUGHT, STRUCK)) {
            return -2;
        }
        int count = 0;
        for (int i = 0; i < now.head.lineCount; i++) {
            if (now.head.inLine(i, 1) == what) {
                count++;
            }
        }
        return count;
    }

    public int image() {
        kept.copyFrom(now);
        return now.head.clock;
    }

    public int back() {
        now.copyFrom(kept);
        return now.head.clock;
    }

    public int about(int what) {
        switch (what) {
            case 0: return now.textCount;
            case 1: return now.ruling;
            case 2: return now.steps.count;
            case 3: return now.requestCount;
            case 4: return now.saidCount;
            case 5: return tapeLength;
            default: return -2;
        }
    }

    private static boolean within(int value, int low, int high) {
        return value >= low && value <= high;
    }

    private static boolean isTrack(int number) {
        return number >= 0 && number < TRACKS;
    }

    private static int middle(int track) {
        return track * WIDTH + WIDTH / 2;
    }

    private static int hold(int value, int low, int high) {
        return Math.max(low, Math.min(high, value));
    }

    /** What a STEP that is taken back makes as it was: THE HEAD, LEARNT, CLOCK, X and BOOK. */
    private static final class Head {
        private int place = 8;
        private int speed = 0;
        private int target = 0;
        private int error = 0;
        private int settled = 0;
        private int written = 0;
        private int struck = 0;
        private int clock = 0;
        private int x = 467;
        private int lineCount = 0;
        private final int[] learnt = new int[SECTORS];
        private final int[] lines = new int[BOOK_LINES * LINE];

        private void copyFrom(Head other) {
            place = other.place;
            speed = other.speed;
            target = other.target;
            error = other.error;
            settled = other.settled;
            written = other.written;
            struck = other.struck;
            clock = other.clock;
            x = other.x;
            lineCount = other.lineCount;
            System.arraycopy(other.learnt, 0, learnt, 0, SECTORS);
            System.arraycopy(other.lines, 0, lines, 0, BOOK_LINES * LINE);
        }

        private int sectorNow() {
            return Math.floorMod(clock, SECTORS);
        }

        private int draw() {
            int drawn = x;
            x = (x * 739 + 601) % 31069;
            return drawn;
        }

        private int learntOf(int sector) {
            return within(sector, 0, SECTORS - 1) ? learnt[sector] : 0;
        }

        private void addLearnt(int sector, int more) {
            if (within(sector, 0, SECTORS - 1)) {
                learnt[sector] = hold(learnt[sector] + more, -MOST_LEARNT, MOST_LEARNT);
            }
        }

        private void aim(int track) {
            target = track;
            settled = 0;
            note(SOUGHT, track);
        }

        private void nudge(int by) {
            place = hold(place + by, 0, LAST_PLACE);
            settled = 0;
            note(SHAKEN, by);
        }

        private boolean gateOpen() {
            return settled >= GATE;
        }

        private void mark() {
            written = Math.min(written + 1, 9999);
            note(WRITTEN, target);
        }

        // The second half of a SAMPLE: all that comes behind what was read.
        private void move(int pull) {
            speed = hold(speed + pull, -MOST_SPEED, MOST_SPEED);
            int next = place + speed;
            place = hold(next, 0, LAST_PLACE);
            if (next != place) {
                speed = 0;
                struck = Math.min(struck + 1, 9999);
                note(STRUCK, place);
            }
            boolean calm = within(error, -3, 3) && within(speed, -1, 1);
            boolean opens = calm && settled == GATE - 1;
            settled = calm ? Math.min(settled + 1, 99) : 0;
            if (opens) {
                note(AT_REST, target);
            }
            clock++;
        }

        private void note(int what, int value) {
            if (lineCount >= BOOK_LINES) {
                System.arraycopy(lines, LINE, lines, 0, (BOOK_LINES - 1) * LINE);
                lineCount = BOOK_LINES - 1;
            }
            int first = lineCount * LINE;
            if (within(first, 0, (BOOK_LINES - 1) * LINE)) {
                lines[first] = clock;
                lines[first + 1] = what;
                lines[first + 2] = value;
                lineCount++;
            }
        }

        private int inLine(int line, int what) {
            if (!within(line, 0, BOOK_LINES - 1) || !within(what, 0, LINE - 1)) {
                return 0;
            }
            return lines[line * LINE + what];
        }

        private int linesWith(int what, int value) {
            int count = 0;
            for (int i = 0; i < lineCount; i++) {
                if (inLine(i, 1) == what && inLine(i, 2) == value) {
                    count++;
                }
            }
            return count;
        }
    }

    /** The latest STEPS, as all was ahead of each; the oldest makes room for a new one. */
    private static final class Steps {
        private final Head[] rows = new Head[STEPS];
        private int first = 0;
        private int count = 0;

        private Steps() {
            for (int i = 0; i < STEPS; i++) {
                rows[i] = new Head();
            }
        }

        private Head rowAt(int i) {
            return rows[Math.floorMod(first + i, STEPS)];
        }

        private void keep(Head head) {
            if (count >= STEPS) {
                first = (first + 1) % STEPS;
                count = STEPS - 1;
            }
            Head row = rowAt(count);
            if (row != null) {
                row.copyFrom(head);
                count++;
            }
        }

        private boolean giveBack(Head head) {
            if (count <= 0) {
                return false;
            }
            Head row = rowAt(count - 1);
            if (row == null) {
                return false;
            }
            head.copyFrom(row);
            count--;
            return true;
        }

        private void copyFrom(Steps other) {
            count = Math.min(other.count, STEPS);
            first = 0;
            for (int i = 0; i < count; i++) {
                Head row = rowAt(i);
                Head theirs = other.rowAt(i);
                if (row != null && theirs != null) {
                    row.copyFrom(theirs);
                }
            }
        }
    }

    /** All that AN IMAGE has. Of the TEXTS it is how many: one that has been read never changes. */
    private static final class All {
        private final Head head = new Head();
        private final Steps steps = new Steps();
        private final int[] wobble = new int[SECTORS];
        private int lostBits = 0;
        private int textCount = 0;
        private int ruling = NONE;
        private final int[] requests = new int[REQUESTS];
        private int requestCount = 0;
        private final int[] saidErrors = new int[MOST_SAID];
        private final int[] saidPulls = new int[MOST_SAID];
        private int saidCount = 0;

        private void copyFrom(All other) {
            head.copyFrom(other.head);
            steps.copyFrom(other.steps);
            System.arraycopy(other.wobble, 0, wobble, 0, SECTORS);
            lostBits = other.lostBits;
            textCount = other.textCount;
            ruling = other.ruling;
            System.arraycopy(other.requests, 0, requests, 0, REQUESTS);
            requestCount = other.requestCount;
            System.arraycopy(other.saidErrors, 0, saidErrors, 0, MOST_SAID);
            System.arraycopy(other.saidPulls, 0, saidPulls, 0, MOST_SAID);
            saidCount = other.saidCount;
        }
    }

    /** A TEXT that was read: its CLAUSES, and its laws as instructions for a machine with a stack. */
    private static final class Text {
        private final int[] kinds = new int[CLAUSES];
        private final int[] firsts = new int[CLAUSES];
        private final int[] seconds = new int[CLAUSES];
        private int clauses = 0;
        // No TOKEN makes more than one instruction, so there are no more than bytes.
        private final int[] code = new int[TAPE];
        private int length = 0;
        private int pullsFrom = NONE;
        private int pullsTo = NONE;
        private int learnsFrom = NONE;
        private int learnsTo = NONE;

        private void empty() {
            clauses = 0;
            length = 0;
            pullsFrom = NONE;
            pullsTo = NONE;
            learnsFrom = NONE;
            learnsTo = NONE;
        }

        private void addClause(int kind, int first, int second) {
            if (within(clauses, 0, CLAUSES - 1)) {
                kinds[clauses] = kind;
                firsts[clauses] = first;
                seconds[clauses] = second;
                clauses++;
            }
        }

        private int emit(int op, int value) {
            int place = length;
            if (within(place, 0, TAPE - 1)) {
                code[place] = value << OP_BITS | op;
                length++;
            }
            return place;
        }

        // A jump is written ahead of what it jumps over; where it goes is known behind that.
        private void leadHere(int place, int op) {
            if (within(place, 0, TAPE - 1)) {
                code[place] = length << OP_BITS | op;
            }
        }
    }

    /** Cuts the tape into TOKENS and reads these, from the first to the first FAULT. */
    private static final class Reader {
        private final int[] kinds = new int[TAPE + 1];
        private final int[] starts = new int[TAPE + 1];
        private final int[] values = new int[TAPE + 1];
        private int count = 0;
        private int at = 0;
        private int law = NONE;
        private int fault = 0;
        private int faultPlace = NONE;

        private boolean readTape(int[] tape, int length, Text text) {
            fault = 0;
            faultPlace = NONE;
            at = 0;
            if (tape == null || text == null) {
                return false;
            }
            text.empty();
            cut(tape, Math.min(length, tape.length));
            for (int i = 0; i <= TAPE && kind() != AFTER; i++) {
                if (!clause(text)) {
                    return false;
                }
            }
            return true;
        }

        // ---- TOKENS ----

        private void cut(int[] tape, int length) {
            count = 0;
            int place = 0;
            for (int i = 0; i < TAPE && place < length; i++) {
                int sign = tape[place];
                if (sign == 32 || sign == 10) {
                    place++;
                } else if (isLetter(sign)) {
                    place = cutWord(tape, place, length);
                } else if (isDigit(sign)) {
                    place = cutNumber(tape, place, length);
                } else {
                    place = cutSign(tape, place, length);
                }
            }
            add(AFTER, length, 0);
        }

        private void add(int kind, int start, int value) {
            if (within(count, 0, TAPE)) {
                kinds[count] = kind;
                starts[count] = start;
                values[count] = value;
                count++;
            }
        }

        private int cutWord(int[] tape, int from, int length) {
            int to = from;
            while (to < length && to < tape.length && isLetter(tape[to])) {
                to++;
            }
            int number = wordNumber(tape, from, to);
            add(number == NONE ? STRANGE : number, from, 0);
            return to;
        }

        private static int wordNumber(int[] tape, int from, int to) {
            int number = 0;
            int place = from;
            boolean same = true;
            for (int i = 0; i < WORDS.length(); i++) {
                char letter = WORDS.charAt(i);
                if (letter != ' ') {
                    same = same && place >= 0 && place < to && place < tape.length && tape[place] == letter;
                    place++;
                } else if (same && place == to) {
                    return number;
                } else {
                    number++;
                    place = from;
                    same = true;
                }
            }
            return NONE;
        }

        private int cutNumber(int[] tape, int from, int length) {
            int to = from;
            int value = 0;
            while (to < length && to < tape.length && isDigit(tape[to])) {
                value = Math.min(value * 10 + tape[to] - '0', MOST_NUMBER + 1);
                to++;
            }
            add(NUMBER, from, value);
            return to;
        }

        private int cutSign(int[] tape, int from, int length) {
            int sign = tape[from];
            boolean equal = from + 1 < length && from + 1 < tape.length && tape[from + 1] == '=';
            if (equal && (sign == '<' || sign == '>')) {
                add(sign == '<' ? AT_MOST : AT_LEAST, from, 0);
                return from + 2;
            }
            add(signKind(sign), from, 0);
            return from + 1;
        }

        private static int signKind(int sign) {
            switch (sign) {
                case '<': return LESS;
                case '>': return MORE;
                case '=': return SAME;
                case '#': return UNLIKE;
                case '+': return PLUS;
                case '-': return MINUS;
                case '*': return TIMES;
                case '/': return OVER;
                case '(': return OPEN;
                case ')': return CLOSE;
                case ';': return STOP;
                default: return STRANGE;
            }
        }

        private static boolean isLetter(int sign) {
            return within(sign, 'a', 'z') || within(sign, 'A', 'Z');
        }

        private static boolean isDigit(int sign) {
            return within(sign, '0', '9');
        }

        private int kind() {
            return within(at, 0, TAPE) && at < count ? kinds[at] : AFTER;
        }

        private int value() {
            return within(at, 0, TAPE) ? values[at] : 0;
        }

        private boolean refuse(int number) {
            fault = number;
            faultPlace = within(at, 0, TAPE) ? starts[at] : NONE;
            return false;
        }

        private boolean take(int kind) {
            if (kind() != kind) {
                return refuse(1);
            }
            at++;
            return true;
        }

        // ---- CLAUSES ----

        private boolean clause(Text text) {
            int kind = kind();
            if (!within(kind, PULLS, DAY)) {
                return refuse(1);
            }
            if (kind == PULLS && text.pullsFrom != NONE || kind == LEARNS && text.learnsFrom != NONE) {
                return refuse(4);
            }
            if (text.clauses >= CLAUSES) {
                return refuse(6);
            }
            at++;
            return (kind <= LEARNS ? lawClause(kind, text) : scriptClause(kind, text)) && take(STOP);
        }

        private boolean lawClause(int kind, Text text) {
            law = kind;
            text.addClause(kind, 0, 0);
            int from = text.length;
            if (!sum(text, 0)) {
                return false;
            }
            if (kind == PULLS) {
                text.pullsFrom = from;
                text.pullsTo = text.length;
            } else {
                text.learnsFrom = from;
                text.learnsTo = text.length;
            }
            return true;
        }

        private boolean scriptClause(int kind, Text text) {
            int low = 0;
            int high = 0;
            switch (kind) {
                case WOBBLE: return wobbleClause(text);
                case LOSE: high = SECTORS - 1; break;
                case SEEK: high = TRACKS - 1; break;
                case SHAKE: low = 1; high = MOST_SHAKE; break;
                case DAY: low = 1; high = MOST_DAYS; break;
                default:
                    text.addClause(kind, 0, 0);
                    return true;
            }
            int first = value();
            if (!number(low, high)) {
                return false;
            }
            text.addClause(kind, first, 0);
            return true;
        }

        private boolean wobbleClause(Text text) {
            int first = value();
            if (!number(0, SECTORS - 1) || !take(BY)) {
                return false;
            }
            int second = value();
            if (!number(0, 7)) {
                return false;
            }
            text.addClause(WOBBLE, first, second);
            return true;
        }

        private boolean number(int low, int high) {
            if (kind() != NUMBER) {
                return refuse(1);
            }
            if (!within(value(), low, high)) {
                return refuse(2);
            }
            at++;
            return true;
        }

        // ---- laws; depth: how many of ( not curve learnt if - are open ----

        private boolean sum(Text text, int depth) {
            if (!product(text, depth)) {
                return false;
            }
            for (int i = 0; i < TAPE && (kind() == PLUS || kind() == MINUS); i++) {
                int op = kind();
                at++;
                if (!product(text, depth)) {
                    return false;
                }
                text.emit(op, 0);
            }
            return true;
        }

        private boolean product(Text text, int depth) {
            if (!one(text, depth)) {
                return false;
            }
            for (int i = 0; i < TAPE && (kind() == TIMES || kind() == OVER); i++) {
                int op = kind();
                at++;
                if (!one(text, depth)) {
                    return false;
                }
                text.emit(op, 0);
            }
            return true;
        }

        private boolean one(Text text, int depth) {
            int kind = kind();
            switch (kind) {
                case NUMBER: {
                    int value = value();
                    if (!number(0, MOST_NUMBER)) {
                        return false;
                    }
                    text.emit(NUMBER, value);
                    return true;
                }
                case OPEN: return open(depth) && sum(text, depth + 1) && take(CLOSE);
                case IF: return open(depth) && choice(text, depth + 1);
                case MINUS:
                case CURVE:
                case LEARNT:
                    if (!open(depth) || !one(text, depth + 1)) {
                        return false;
                    }
                    text.emit(kind == MINUS ? TURN : kind, 0);
                    return true;
                default: return name(text);
            }
        }

        private boolean open(int depth) {
            if (depth >= DEPTH) {
                return refuse(3);
            }
            at++;
            return true;
        }

        private boolean name(Text text) {
            int kind = kind();
            if (!within(kind, CLOCK, OFF)) {
                return refuse(1);
            }
            if (kind == (law == PULLS ? OFF : SETTLED)) {
                return refuse(5);
            }
            text.emit(kind, 0);
            at++;
            return true;
        }

        private boolean choice(Text text, int depth) {
            if (!either(text, depth) || !take(THEN)) {
                return false;
            }
            int past = text.emit(THEN, 0);
            if (!sum(text, depth) || !take(ELSE)) {
                return false;
            }
            int over = text.emit(ELSE, 0);
            text.leadHere(past, THEN);
            if (!sum(text, depth) || !take(END)) {
                return false;
            }
            text.leadHere(over, ELSE);
            return true;
        }

        private boolean either(Text text, int depth) {
            if (!both(text, depth)) {
                return false;
            }
            for (int i = 0; i < TAPE && kind() == OR; i++) {
                at++;
                if (!both(text, depth)) {
                    return false;
                }
                text.emit(OR, 0);
            }
            return true;
        }

        private boolean both(Text text, int depth) {
            if (!ask(text, depth)) {
                return false;
            }
            for (int i = 0; i < TAPE && kind() == AND; i++) {
                at++;
                if (!ask(text, depth)) {
                    return false;
                }
                text.emit(AND, 0);
            }
            return true;
        }

        private boolean ask(Text text, int depth) {
            if (kind() == NOT) {
                if (!open(depth) || !ask(text, depth + 1)) {
                    return false;
                }
                text.emit(NOT, 0);
                return true;
            }
            if (!sum(text, depth)) {
                return false;
            }
            int op = kind();
            if (!within(op, LESS, UNLIKE)) {
                return refuse(1);
            }
            at++;
            if (!sum(text, depth)) {
                return false;
            }
            text.emit(op, 0);
            return true;
        }
    }

    /** Works a law of a TEXT out. */
    private static final class Machine {
        private final int[] stack = new int[STACK];
        private int top = 0;

        private int work(Text text, int from, int to, Head head, int off) {
            top = 0;
            int at = from;
            // Jumps go on alone, so no law takes more turns than it has instructions.
            for (int turn = 0; turn < TAPE && at < to && within(at, 0, TAPE - 1); turn++) {
                int op = text.code[at] & OP_MASK;
                int value = text.code[at] >> OP_BITS;
                at++;
                switch (op) {
                    case NUMBER: push(value); break;
                    case THEN: at = pop() == 0 ? value : at; break;
                    case ELSE: at = value; break;
                    case NOT: push(1 - pop()); break;
                    case TURN: push(-pop()); break;
                    case CURVE: push(speedOver(pop(), 1)); break;
                    case LEARNT: push(head.learntOf(pop())); break;
                    case CLOCK: push(head.clock); break;
                    case SECTOR: push(head.sectorNow()); break;
                    case SPEED: push(head.speed); break;
                    case ERROR: push(head.error); break;
                    case TARGET: push(head.target); break;
                    case SETTLED: push(head.settled); break;
                    case OFF: push(off); break;
                    default: {
                        int right = pop();
                        push(join(op, pop(), right));
                        break;
                    }
                }
            }
            return pop();
        }

        private void push(int value) {
            if (within(top, 0, STACK - 1)) {
                stack[top] = value;
                top++;
            }
        }

        private int pop() {
            if (!within(top, 1, STACK)) {
                return 0;
            }
            top--;
            return stack[top];
        }

        private static int join(int op, int left, int right) {
            switch (op) {
                case PLUS: return bound((long) left + right);
                case MINUS: return bound((long) left - right);
                case TIMES: return bound((long) left * right);
                case OVER: return right == 0 ? 0 : left / right;
                case LESS: return left < right ? 1 : 0;
                case AT_MOST: return left <= right ? 1 : 0;
                case MORE: return left > right ? 1 : 0;
                case AT_LEAST: return left >= right ? 1 : 0;
                case SAME: return left == right ? 1 : 0;
                case UNLIKE: return left != right ? 1 : 0;
                case AND: return left & right;
                case OR: return left | right;
                default: return 0;
            }
        }

        private static int bound(long value) {
            return (int) Math.max(-MOST_VALUE, Math.min(MOST_VALUE, value));
        }
    }

    /** THE BEST ORDER of REQUESTS, one after the other the lowest TRACK that keeps the way in all the least. */
    private static final class Route {
        private final int[] asked = new int[REQUESTS];
        private final int[] row = new int[REQUESTS];
        private int count = 0;
        private int leastFar = 0;

        private void find(int from, int[] requests, int howMany) {
            count = 0;
            for (int i = 0; i < howMany && i < requests.length && i < REQUESTS; i++) {
                insert(requests[i]);
            }
            leastFar = leastFrom(from, 0);
            int at = from;
            int served = 0;
            for (int i = 0; i < count && i < REQUESTS; i++) {
                int next = lowestNext(at, served);
                if (within(next, 0, REQUESTS - 1)) {
                    at = asked[next];
                    row[i] = at;
                    served |= 1 << next;
                }
            }
        }

        private int rowAt(int i) {
            return within(i, 0, REQUESTS - 1) ? row[i] : NONE;
        }

        private void insert(int track) {
            int place = count;
            while (place > 0 && place < REQUESTS && asked[place - 1] > track) {
                asked[place] = asked[place - 1];
                place--;
            }
            if (within(place, 0, REQUESTS - 1)) {
                asked[place] = track;
                count++;
            }
        }

        private int lowestNext(int at, int served) {
            int least = leastFrom(at, served);
            for (int i = 0; i < count && i < REQUESTS; i++) {
                boolean open = (served >> i & 1) == 0;
                if (open && Math.abs(asked[i] - at) + leastFrom(asked[i], served | 1 << i) == least) {
                    return i;
                }
            }
            return NONE;
        }

        // On a line it is best to go to the nearer end of what is left, then to the other end: all lies on that way.
        private int leastFrom(int at, int served) {
            int low = NONE;
            int high = NONE;
            for (int i = 0; i < count && i < REQUESTS; i++) {
                if ((served >> i & 1) == 0) {
                    low = low == NONE ? asked[i] : low;
                    high = asked[i];
                }
            }
            return low == NONE ? 0 : high - low + Math.min(Math.abs(at - low), Math.abs(at - high));
        }
    }
}
