/** Boundaries of what is foretold, codes, curves, plans, learning and requests (III), of promises 20 to 42. */
public final class BoundaryAskTest {
    private static final Boundary b = new Boundary();

    public static void main(String[] args) {
        nothingChanges();
        foretold();
        foretoldToTheEnd();
        till();
        tillBeyond();
        tillByTwoHundred();
        gray();
        codes();
        track();
        burst();
        reads();
        fit();
        fits();
        missing();
        unlike();
        rim();
        blind();
        curve();
        stop();
        needs();
        fewest();
        plan();
        learn();
        rests();
        gain();
        request();
        order();
        bestOrder();
        sweep();
        nearest();
        b.end();
    }

    private static void nothingChanges() {
        b.of(20, "All that follows changes nothing but what is told.");
        b.quiet("foretold(60, 0)", x -> x.foretold(60, 0));
        b.quiet("foretold(1, 1)", x -> x.foretold(1, 1));
        b.quiet("till(40)", x -> x.till(40));
        b.quiet("till of the TARGET", x -> x.till(x.is(4)));
        b.quiet("gray(5)", x -> x.gray(5));
        b.quiet("track(5)", x -> x.track(5));
        b.quiet("burst(5, 1)", x -> x.burst(5, 1));
        b.quiet("reads(5, true)", x -> x.reads(5, true));
        b.quiet("fit(..)", x -> x.fit(1, 4, -1, -1, -1));
        b.quiet("fits(..)", x -> x.fits(1, 4, -1, -1, -1));
        b.quiet("unlike(1, 2)", x -> x.unlike(1, 2));
        b.quiet("rim(1, true)", x -> x.rim(1, true));
        b.quiet("blind(..)", x -> x.blind(4, -1, -1, -1));
        b.quiet("curve(9, 1)", x -> x.curve(9, 1));
        b.quiet("stop(9, 1)", x -> x.stop(9, 1));
        b.quiet("needs(9, 9)", x -> x.needs(9, 9));
        b.quiet("fewest(9, 9)", x -> x.fewest(9, 9));
        b.quiet("plan(9, 9, 1)", x -> x.plan(9, 9, 1));
        b.quiet("learn(9, 9, 9)", x -> x.learn(9, 9, 9));
        b.quiet("rests(9, 9)", x -> x.rests(9, 9));
        b.quiet("gain(9)", x -> x.gain(9));
        b.quiet("order(NONE)", x -> x.order(-1));
        b.quiet("order(1)", x -> x.order(1));
        b.quiet("sweep(true)", x -> x.sweep(true));
        b.quiet("nearest()", x -> x.nearest());
        b.of(43, "All that follows changes nothing but what is told.");
        b.quiet("steady()", x -> x.steady());
        b.quiet("spread(true)", x -> x.spread(true));
        b.quiet("mean(false)", x -> x.mean(false));
        b.quiet("window(2)", x -> x.window(2));
        b.quiet("longest()", x -> x.longest());
        b.quiet("whose()", x -> x.whose());
        b.quiet("lost()", x -> x.lost());
        b.quiet("far(3)", x -> x.far(3));
        b.quiet("worst()", x -> x.worst());
        b.quiet("most(0)", x -> x.most(0));
        b.quiet("ledger(0)", x -> x.ledger(0));
        b.of(16, "Of a SECTOR: 0 its WOBBLE, 1 LEARNT, 2 whether it is LOST (1, 0).");
        b.quiet("of(1, 1)", x -> x.of(1, 1));
        b.of(17, "0 CLOCK, 1 X, 2 PLACE");
        b.quiet("is(2)", x -> x.is(2));
        b.of(19, "BOOK: how many (i NONE)");
        b.quiet("book(-1, 0)", x -> x.book(-1, 0));
        b.quiet("book(3, 2)", x -> x.book(3, 2));
        b.of(57, "0 TEXTS, 1 THE TEXT (NONE)");
        b.quiet("about(0)", x -> x.about(0));
        b.of(7, "Of the latest text that was read");
        b.quiet("fault(1)", x -> x.fault(1));
    }

    private static void foretold() {
        b.of(20, "FORETOLD: 0 PLACE, 1 SETTLED. NONE for others.");
        for (int n : new int[] {1, 2, 59, 60}) {
            HeadServo x = new HeadServo();
            x.wobble(3, 5);
            x.seek(9);
            x.day(3);
            int place = x.foretold(n, 0);
            int settled = x.foretold(n, 1);
            x.day(n);
            b.due("PLACE behind " + n, place, x.is(2));
            b.due("SETTLED behind " + n, settled, x.is(6));
        }
        HeadServo y = Heads.still("pulls if clock=0 then 1 else 0 end;");
        b.due("foretold(1, 0)", y.foretold(1, 0), 9);
        b.due("foretold(60, 0)", y.foretold(60, 0), 68);
        b.due("foretold(1, 1)", y.foretold(1, 1), 1);
        b.due("foretold(60, 1)", y.foretold(60, 1), 60);
        b.outside("foretold(.., 0)", (x, v) -> x.foretold(v, 0), 1, 60, -1);
        b.outside("foretold(.., 1)", (x, v) -> x.foretold(v, 1), 1, 60, -1);
        b.outside("foretold(1, ..)", (x, v) -> x.foretold(1, v), 0, 1, -1);
    }

    private static void foretoldToTheEnd() {
        b.of(20, "FORETOLD behind n SAMPLES (1 .. 60; those that can pass), nothing else being done.");
        for (int left = 0; left <= 3; left++) {
            HeadServo x = Heads.still("pulls if clock=9900 then 1 else 0 end;");
            Heads.pass(x, 9999 - left);
            int here = x.is(2);
            for (int n = 1; n <= 5; n++) b.due("foretold(" + n + ", 0) of " + left, x.foretold(n, 0), here + Math.min(n, left));
            b.due("foretold(60, 0) of " + left, x.foretold(60, 0), here + left);
            b.due("foretold(60, 1) of " + left, x.foretold(60, 1), 99);
            b.due("foretold(61, 0) of " + left, x.foretold(61, 0), -1);
        }
    }

    private static void till() {
        b.of(21, "behind how many SAMPLES (beyond 9999, too) SETTLED is 3 or more, were a TRACK sought now (SETTLED 0 first, also of the TARGET).");
        HeadServo x = Heads.still();
        b.due("till(0), SETTLED being 0", x.till(0), 3);
        x.day(2);
        b.due("till(0), SETTLED being 2", x.till(0), 3);
        x.day(1);
        b.due("till(0), SETTLED being 3", x.till(0), 3);
        Heads.pass(x, 99);
        b.due("till(0), SETTLED being 99", x.till(0), 3);
        b.due("till(63), of LOST SECTORS", x.till(63), 3);
        // The head is at rest at each middle: what is read is at most one PLACE beside it.
        HeadServo y = new HeadServo();
        Heads.rule(y, "pulls 0;learns 0;");
        b.due("till(0) over TRACK 0", y.till(0), 3);
        b.due("till(1) over TRACK 0", y.till(1), -1);
        for (int track : new int[] {0, 1, 20, 62, 63}) {
            HeadServo z = Heads.wobbles(0, 1, 0, -1);
            z.seek(33);
            int n = z.till(track);
            z.seek(track);
            int passed = 0;
            while (passed < 201 && z.is(6) < 3) {
                z.day(1);
                passed++;
            }
            b.due("till(" + track + ")", n, passed > 200 ? -1 : passed);
        }
    }

    private static void tillBeyond() {
        b.of(21, "(beyond 9999, too)");
        HeadServo x = Heads.pass(Heads.still(), 9999);
        b.due("till(0) at CLOCK 9999", x.till(0), 3);
        b.due("till(9) at CLOCK 9999", x.till(9), 3);
        Heads.rule(x, "pulls if clock=9999+1 then 2 else if clock=9999+2 then 0-2 else 0 end end;");
        b.due("till(0) by a CLOCK beyond 9999", x.till(0), 5);
        b.due("CLOCK", x.is(0), 9999);
        HeadServo y = Heads.pass(Heads.still(), 9997);
        b.due("till(9) at CLOCK 9997", y.till(9), 3);
        Heads.rule(y, "pulls if sector=0 then 2 else if sector=1 then 0-2 else 0 end end;");
        // SECTORS 5, 6, 7, 0, ..
        b.due("till(9) by SECTORS", y.till(9), 3);
        HeadServo z = Heads.pass(Heads.still(), 9999);
        Heads.rule(z, "pulls if sector=0 then 2 else if sector=1 then 0-2 else 0 end end;");
        // SECTORS 7, 0, 1, 2, 3.
        b.due("till(9) by SECTORS behind 9999", z.till(9), 5);
    }

    private static void tillByTwoHundred() {
        b.of(21, "TILL IT SETTLES: SAMPLES. NONE: not by 200, and for others.");
        int[][] rows = {{0, 3}, {1, 4}, {195, 198}, {196, 199}, {197, 200}, {198, -1}, {199, -1}};
        for (int[] w : rows) {
            // SPEED is 2 or -2 at the first SAMPLES, and 0 behind them.
            HeadServo x = Heads.still("pulls if clock<" + w[0] + " then 4*(clock-clock/2*2)-2-speed else 0-speed end;");
            b.due("till(7), quiet from SAMPLE " + w[0] + " on", x.till(7), w[1]);
        }
        HeadServo y = Heads.still("pulls 9;");
        b.due("till(63) that strikes at each SAMPLE", Heads.shaken(y, 1023).till(63), 3);
        b.outside("till", (x, v) -> x.till(v), 0, 63, -1);
    }

    private static void gray() {
        b.of(22, "CODE of a TRACK. NONE for others (0 .. 63).");
        int[] known = {0, 1, 3, 2, 6, 7, 5, 4, 12, 13, 15, 14, 10, 11, 9, 8, 24};
        for (int t = 0; t < known.length; t++) b.due("gray(" + t + ")", new HeadServo().gray(t), known[t]);
        b.row("gray(track)", new HeadServo(), (x, v) -> x.gray(v), 30, 17, 16, 48, 49);
        b.row("gray(track)", new HeadServo(), (x, v) -> x.gray(v), 62, 33, 32, -1);
        b.outside("gray", (x, v) -> x.gray(v), 0, 63, -1);
    }

    private static void codes() {
        b.of(22, "CODE of a TRACK: its number and half of it (cut), bit by bit unlike.");
        for (int t = 0; t < 64; t++) {
            int code = 0;
            for (int bit = 0; bit < 6; bit++) {
                boolean own = t / (1 << bit) % 2 == 1;
                boolean half = t / 2 / (1 << bit) % 2 == 1;
                if (own != half) code += 1 << bit;
            }
            b.due("gray(" + t + ")", new HeadServo().gray(t), code);
        }
        b.of(28, "UNLIKE: in how many bits CODES of two TRACKS are.");
        for (int bits = 0; bits < 6; bits++) {
            // TRACKS whose CODES are 0 and 1, 3, 7, 15, 31, 63.
            HeadServo x = new HeadServo();
            b.due("unlike in " + (bits + 1), x.unlike(0, x.track((2 << bits) - 1)), bits + 1);
            b.due("unlike in one, bit " + bits, x.unlike(x.track(63), x.track(63 - (1 << bits))), 1);
        }
    }

    private static void missing() {
        b.of(27, "WHERE IT CAN BE, a CODE and four BURSTS (NONE: missing) being read: PLACES where that CODE is read (it or the other one) that have just these BURSTS (but missing ones): how many; the lowest.");
        for (int place : new int[] {0, 3, 12, 15, 16, 19, 20, 500, 508, 511, 1003, 1004, 1011, 1012, 1020, 1023}) {
            for (int mask = 0; mask < 16; mask++) {
                HeadServo x = new HeadServo();
                int[] v = new int[4];
                for (int i = 0; i < 4; i++) v[i] = (mask >> i & 1) == 1 ? -1 : x.burst(place, i);
                int near = 0;
                int lowest = -1;
                int code = x.reads(place, false);
                int track = place / 16;
                int all = 0;
                for (int p = 0; p < 1024; p++) {
                    boolean so = true;
                    for (int i = 0; i < 4; i++) so = so && (v[i] == -1 || v[i] == Math.abs(16 - (p + new int[] {0, 16, 8, 24}[i]) % 32));
                    boolean read = p >= 16 * track - 4 && p <= 16 * track + 19;
                    if (so) all++;
                    if (so && read) {
                        near++;
                        lowest = lowest < 0 ? p : lowest;
                    }
                }
                String told = " of PLACE " + place + ", missing " + mask;
                b.due("fits" + told, x.fits(code, v[0], v[1], v[2], v[3]), near);
                b.due("fit" + told, x.fit(code, v[0], v[1], v[2], v[3]), lowest);
                b.due("blind" + told, x.blind(v[0], v[1], v[2], v[3]), all);
            }
        }
    }

    private static void track() {
        b.of(23, "The TRACK of a CODE. NONE for others (0 .. 63).");
        b.row("track(code)", new HeadServo(), (x, v) -> x.track(v), -1, -1, 0, 1, 3, 2, 7, 6, 4, 5, 15);
        b.row("track(code)", new HeadServo(), (x, v) -> x.track(v), 31, 21, 63, 62, 60);
        b.row("track(code)", new HeadServo(), (x, v) -> x.track(v), 62, 43, 42, -1);
        HeadServo y = new HeadServo();
        for (int t = 0; t < 64; t++) b.due("track(gray(" + t + "))", y.track(y.gray(t)), t);
        b.outside("track", (x, v) -> x.track(v), 0, 63, -1);
    }

    private static void burst() {
        b.of(24, "BURSTS 0 .. 3 of a PLACE: 16 less what is left over by 32 of PLACE and 0, 16, 8, 24 (each), without its sign.");
        // PLACE, then BURSTS 0 .. 3: around 0, 8, 16, 24, 32.
        int[][] rows = {{0, 16, 0, 8, 8}, {1, 15, 1, 7, 9}, {7, 9, 7, 1, 15}, {8, 8, 8, 0, 16}, {9, 7, 9, 1, 15},
            {15, 1, 15, 7, 9}, {16, 0, 16, 8, 8}, {17, 1, 15, 9, 7}, {23, 7, 9, 15, 1}, {24, 8, 8, 16, 0}, {25, 9, 7, 15, 1},
            {31, 15, 1, 9, 7}, {32, 16, 0, 8, 8}, {33, 15, 1, 7, 9}, {1022, 14, 2, 10, 6}, {1023, 15, 1, 9, 7}};
        HeadServo x = new HeadServo();
        for (int[] w : rows) {
            for (int i = 0; i < 4; i++) b.due("burst(" + w[0] + ", " + i + ")", x.burst(w[0], i), w[i + 1]);
        }
        b.of(24, "A BURST (0 .. 3). NONE for others (PLACES 0 .. 1023).");
        b.row("burst(place, 0)", x, (y, v) -> y.burst(v, 0), -1, -1, 16, 15);
        b.row("burst(place, 3)", x, (y, v) -> y.burst(v, 3), 1022, 6, 7, -1);
        b.row("burst(0, which)", x, (y, v) -> y.burst(0, v), -1, -1, 16, 0, 8, 8, -1);
        b.outside("burst(.., 0)", (y, v) -> y.burst(v, 0), 0, 1023, -1);
        b.outside("burst(9, ..)", (y, v) -> y.burst(9, v), 0, 3, -1);
    }

    private static void reads() {
        b.of(25, "within 4 PLACES of another TRACK (of its nearest PLACE: in the first and in the last four of its own, if there is one beside) the CODE of that one, too: the other one.");
        HeadServo x = new HeadServo();
        for (int t = 0; t < 64; t++) {
            for (int i = 0; i < 16; i++) {
                int beside = i < 4 ? t - 1 : i > 11 ? t + 1 : -1;
                boolean is = beside >= 0 && beside <= 63;
                b.due("reads(" + (16 * t + i) + ", true)", new HeadServo().reads(16 * t + i, true), is ? beside ^ beside >> 1 : -1);
            }
        }
        b.row("reads(place, true)", x, (y, v) -> y.reads(v, true), 10, -1, -1, 1, 1, 1, 1, 0, 0, 0, 0, -1);
        b.row("reads(place, true)", x, (y, v) -> y.reads(v, true), 0, -1, -1, -1, -1, -1);
        b.row("reads(place, true)", x, (y, v) -> y.reads(v, true), 1002, -1, -1, 32, 32, 32, 32, 33, 33, 33, 33, -1);
        b.row("reads(place, true)", x, (y, v) -> y.reads(v, true), 1019, -1, -1, -1, -1, -1, -1);
        b.of(25, "WHAT IS READ: a CODE; the other one. NONE: there is no other, and for others.");
        b.row("reads(place, false)", x, (y, v) -> y.reads(v, false), -1, -1, 0, 0);
        b.row("reads(place, false)", x, (y, v) -> y.reads(v, false), 14, 0, 0, 1, 1);
        b.row("reads(place, false)", x, (y, v) -> y.reads(v, false), 1006, 33, 33, 32, 32);
        b.row("reads(place, false)", x, (y, v) -> y.reads(v, false), 1022, 32, 32, -1);
        b.outside("reads(.., false)", (y, v) -> y.reads(v, false), 0, 1023, -1);
        b.outside("reads(.., true)", (y, v) -> y.reads(v, true), 0, 1023, -1);
    }

    private static void fit() {
        b.of(26, "WHERE IT IS: the lowest PLACE. NONE: none, and for others.");
        HeadServo x = new HeadServo();
        // BURST 0 is 4 at 12, 20, 44, ..; TRACK 1 is read from 12 to 35, TRACK 2 (CODE 3) from 28 to 51.
        b.due("fit at the lower rim", x.fit(1, 4, -1, -1, -1), 12);
        b.due("fit behind it", x.fit(1, -1, -1, 5, -1), 13);
        b.due("fit of what is one PLACE below", x.fit(3, 11, -1, -1, -1), 37);
        b.due("fit just at it", x.fit(3, 12, -1, -1, -1), 28);
        b.due("fit at the upper rim", x.fit(1, 13, 3, 5, 11), 35);
        b.due("fit of what is one PLACE above", x.fit(1, 12, 4, 4, 12), -1);
        b.due("fit of TRACK 0 at PLACE 0", x.fit(0, 16, 0, 8, 8), 0);
        b.due("fit of TRACK 0 at PLACE 19", x.fit(0, 3, 13, 11, 5), 19);
        b.due("fit of TRACK 0 at PLACE 20", x.fit(0, 4, 12, 12, 4), -1);
        b.due("fit of TRACK 63 at PLACE 1004", x.fit(32, 4, 12, 4, 12), 1004);
        b.due("fit of TRACK 63 at PLACE 1003", x.fit(32, 5, 11, 3, 13), -1);
        b.due("fit of TRACK 63 at PLACE 1023", x.fit(32, 15, 1, 9, 7), 1023);
        b.due("fit of none missing, but none", x.fit(1, 16, 16, 16, 16), -1);
        b.due("fit of all missing", x.fit(1, -1, -1, -1, -1), 12);
        b.due("fit of 0", x.fit(1, 0, -1, -1, -1), 16);
        b.due("fit of 16", x.fit(1, -1, 16, -1, -1), 16);
        b.due("fit of the third", x.fit(1, -1, -1, 16, -1), 24);
        b.due("fit of the fourth", x.fit(1, -1, -1, -1, 16), -1);
        b.outside("fit(.., NONE)", (y, v) -> y.fit(v, -1, -1, -1, -1), 0, 63, -1);
        b.outside("fit(.., 16)", (y, v) -> y.fit(v, 16, -1, -1, -1), 0, 63, -1);
        b.outside("fit(.., 4, 12, 12, 4)", (y, v) -> y.fit(v, 4, 12, 12, 4), 0, 63, -1);
        b.outside("fit(1, .., NONE)", (y, v) -> y.fit(1, v, -1, -1, -1), -1, 16, -1);
        b.outside("fit(1, NONE, .., NONE)", (y, v) -> y.fit(1, -1, v, -1, -1), -1, 16, -1);
        b.outside("fit(1, NONE, NONE, .., NONE)", (y, v) -> y.fit(1, -1, -1, v, -1), -1, 16, -1);
        b.outside("fit(1, NONE, NONE, NONE, ..)", (y, v) -> y.fit(1, -1, -1, -1, v), -1, 16, -1);
    }

    private static void fits() {
        b.of(27, "WHERE IT CAN BE: how many PLACES. NONE for others (CODES 0 .. 63; BURSTS NONE .. 16).");
        HeadServo x = new HeadServo();
        b.due("fits of all missing", x.fits(1, -1, -1, -1, -1), 24);
        b.due("fits of all missing, TRACK 0", x.fits(0, -1, -1, -1, -1), 20);
        b.due("fits of all missing, TRACK 63", x.fits(32, -1, -1, -1, -1), 20);
        b.due("fits of all missing, TRACK 62", x.fits(33, -1, -1, -1, -1), 24);
        b.due("fits of all missing, TRACK 42", x.fits(63, -1, -1, -1, -1), 24);
        b.due("fits of two", x.fits(1, 4, -1, -1, -1), 2);
        b.due("fits of one", x.fits(1, 4, 12, 12, 4), 1);
        b.due("fits of one, some missing", x.fits(1, -1, 12, -1, 4), 1);
        b.due("fits of the upper rim", x.fits(1, 13, 3, 5, -1), 1);
        b.due("fits of one PLACE above", x.fits(1, 12, 4, 4, -1), 0);
        b.due("fits of 0", x.fits(1, 0, -1, -1, -1), 1);
        b.due("fits of 0, the second", x.fits(1, -1, 0, -1, -1), 1);
        b.due("fits of 16, the second", x.fits(1, -1, 16, -1, -1), 1);
        b.due("fits of none", x.fits(1, 16, 16, 16, 16), 0);
        b.due("fits of none, by the first alone", x.fits(1, 3, 12, 12, 4), 0);
        b.due("fits of none, by the second alone", x.fits(1, 4, 11, 12, 4), 0);
        b.due("fits of none, by the third alone", x.fits(1, 4, 12, 11, 4), 0);
        b.due("fits of none, by the fourth alone", x.fits(1, 4, 12, 12, 3), 0);
        b.outside("fits(.., NONE)", (y, v) -> y.fits(v, -1, -1, -1, -1), 0, 63, -1);
        b.outside("fits(1, .., NONE)", (y, v) -> y.fits(1, v, -1, -1, -1), -1, 16, -1);
        b.outside("fits(1, NONE, .., NONE)", (y, v) -> y.fits(1, -1, v, -1, -1), -1, 16, -1);
        b.outside("fits(1, NONE, NONE, .., NONE)", (y, v) -> y.fits(1, -1, -1, v, -1), -1, 16, -1);
        b.outside("fits(1, NONE, NONE, NONE, ..)", (y, v) -> y.fits(1, -1, -1, -1, v), -1, 16, -1);
    }

    private static void unlike() {
        b.of(28, "UNLIKE. NONE for others (0 .. 63).");
        HeadServo x = new HeadServo();
        b.due("unlike(0, 0)", x.unlike(0, 0), 0);
        b.due("unlike(63, 63)", x.unlike(63, 63), 0);
        b.due("unlike(0, 63)", x.unlike(0, 63), 1);
        b.due("unlike(63, 0)", x.unlike(63, 0), 1);
        b.due("unlike(0, 42)", x.unlike(0, 42), 6);
        b.due("unlike(0, 21)", x.unlike(0, 21), 5);
        for (int t = 0; t < 63; t++) b.due("unlike of TRACKS beside " + t, x.unlike(t, t + 1), 1);
        b.outside("unlike(.., 0)", (y, v) -> y.unlike(v, 0), 0, 63, -1);
        b.outside("unlike(0, ..)", (y, v) -> y.unlike(0, v), 0, 63, -1);
    }

    private static void rim() {
        b.of(29, "A RIM: the lowest PLACE (high false), the highest one (high true). NONE for others (0 .. 63).");
        HeadServo x = new HeadServo();
        int[][] rows = {{0, 0, 19}, {1, 12, 35}, {3, 28, 51}, {33, 988, 1011}, {32, 1004, 1023}, {63, 668, 691}};
        for (int[] w : rows) {
            b.due("rim(" + w[0] + ", false)", x.rim(w[0], false), w[1]);
            b.due("rim(" + w[0] + ", true)", x.rim(w[0], true), w[2]);
        }
        b.outside("rim(.., false)", (y, v) -> y.rim(v, false), 0, 63, -1);
        b.outside("rim(.., true)", (y, v) -> y.rim(v, true), 0, 63, -1);
    }

    private static void blind() {
        b.of(30, "BLIND. NONE for others (NONE .. 16).");
        HeadServo x = new HeadServo();
        b.due("blind of all missing", x.blind(-1, -1, -1, -1), 1024);
        int[] ends = {0, 16};
        for (int end : ends) {
            b.due("blind of the first " + end, x.blind(end, -1, -1, -1), 32);
            b.due("blind of the second " + end, x.blind(-1, end, -1, -1), 32);
            b.due("blind of the third " + end, x.blind(-1, -1, end, -1), 32);
            b.due("blind of the fourth " + end, x.blind(-1, -1, -1, end), 32);
        }
        for (int between : new int[] {1, 15}) b.due("blind of the first " + between, x.blind(between, -1, -1, -1), 64);
        b.due("blind of all four", x.blind(16, 0, 8, 8), 32);
        b.due("blind of none", x.blind(16, 16, -1, -1), 0);
        b.outside("blind(.., NONE)", (y, v) -> y.blind(v, -1, -1, -1), -1, 16, -1);
        b.outside("blind(NONE, .., NONE)", (y, v) -> y.blind(-1, v, -1, -1), -1, 16, -1);
        b.outside("blind(NONE, NONE, .., NONE)", (y, v) -> y.blind(-1, -1, v, -1), -1, 16, -1);
        b.outside("blind(NONE, NONE, NONE, ..)", (y, v) -> y.blind(-1, -1, -1, v), -1, 16, -1);
    }

    private static int way(int speed, int pull) {
        int way = 0;
        for (int s = speed; s > 0; s -= pull) way += s;
        return way;
    }

    private static void curve() {
        b.of(31, "A CURVE of how far by a pull: the greatest SPEED (64 at most) from which one stops that far on or sooner.");
        for (int pull = 1; pull <= 9; pull++) {
            for (int speed = 1; speed <= 64; speed++) {
                int far = way(speed, pull);
                HeadServo x = new HeadServo();
                if (far <= 1023) b.due("curve(" + far + ", " + pull + ")", x.curve(far, pull), speed);
                if (far <= 1024) b.due("curve(" + (far - 1) + ", " + pull + ")", x.curve(far - 1, pull), speed - 1);
                int next = speed == 64 ? 64 : way(speed + 1, pull) == far + 1 ? speed + 1 : speed;
                if (far < 1023) b.due("curve(" + (far + 1) + ", " + pull + ")", x.curve(far + 1, pull), next);
            }
        }
        b.of(31, "A CURVE: the SPEED. NONE for others (0 .. 1023; 1 .. 9).");
        HeadServo x = new HeadServo();
        b.due("curve(0, 1)", x.curve(0, 1), 0);
        b.due("curve(0, 9)", x.curve(0, 9), 0);
        b.due("curve(1023, 1)", x.curve(1023, 1), 44);
        b.due("curve(1023, 2)", x.curve(1023, 2), 62);
        b.due("curve(1023, 3)", x.curve(1023, 3), 64);
        b.due("curve(1023, 9)", x.curve(1023, 9), 64);
        b.outside("curve(.., 1)", (y, v) -> y.curve(v, 1), 0, 1023, -1);
        b.outside("curve(9, ..)", (y, v) -> y.curve(9, v), 1, 9, -1);
    }

    private static void stop() {
        b.of(32, "A STOP: each SAMPLE PLACE is more by SPEED, SPEED is less by the pull then (0 at least): how far till SPEED is 0.");
        int[][] rows = {{1, 1, 1}, {2, 1, 3}, {8, 9, 8}, {9, 9, 9}, {10, 9, 11}, {17, 9, 25}, {18, 9, 27}, {19, 9, 30},
            {1, 2, 1}, {2, 2, 2}, {3, 2, 4}, {4, 2, 6}, {64, 1, 2080}, {64, 2, 1056}, {64, 9, 260}, {63, 9, 252}};
        for (int[] w : rows) b.due("stop(" + w[0] + ", " + w[1] + ")", new HeadServo().stop(w[0], w[1]), w[2]);
        b.of(32, "A STOP: how far. NONE for others (0 .. 64; 1 .. 9).");
        b.due("stop(0, 1)", new HeadServo().stop(0, 1), 0);
        b.due("stop(0, 9)", new HeadServo().stop(0, 9), 0);
        b.outside("stop(.., 1)", (y, v) -> y.stop(v, 1), 0, 64, -1);
        b.outside("stop(9, ..)", (y, v) -> y.stop(9, v), 1, 9, -1);
    }

    private static void needs() {
        b.of(33, "NEEDED: the least pull (1 .. 9) by which one stops so far on or sooner from a SPEED; none.");
        int[][] rows = {{0, 0, 1}, {1, 0, -1}, {1, 1, 1}, {2, 1, -1}, {2, 2, 2}, {2, 3, 1}, {9, 8, -1}, {9, 9, 9}, {9, 10, 8},
            {10, 10, -1}, {10, 11, 9}, {64, 259, -1}, {64, 260, 9}, {64, 287, 9}, {64, 288, 8}, {44, 990, 1}, {44, 989, 2},
            {45, 1023, 2}, {64, 1023, 3}};
        for (int[] w : rows) b.due("needs(" + w[0] + ", " + w[1] + ")", new HeadServo().needs(w[0], w[1]), w[2]);
        b.of(33, "NEEDED: the pull. NONE: none, and for others (0 .. 64; 0 .. 1023).");
        b.due("needs(0, 1023)", new HeadServo().needs(0, 1023), 1);
        b.due("needs(64, 0)", new HeadServo().needs(64, 0), -1);
        b.outside("needs(.., 1023)", (y, v) -> y.needs(v, 1023), 0, 64, -1);
        b.outside("needs(1, ..)", (y, v) -> y.needs(1, v), 0, 1023, -1);
    }

    private static void fewest() {
        b.of(34, "FEWEST SAMPLES to go just so far from rest to rest, SPEED changing by 1, 0 or -1 ahead of each, never below 0 nor above the most told (0 for 0; SPEED is 0 ahead of the first, the last one is 1 or 0)");
        HeadServo x = new HeadServo();
        // The farthest way of 1, 2, 3, .. SAMPLES; one farther takes one more.
        int[] farthest = {0, 1, 2, 4, 6, 9, 12, 16, 20, 25, 30, 36, 42, 49, 56};
        for (int n = 0; n < farthest.length; n++) {
            b.due("fewest(" + farthest[n] + ", 9)", x.fewest(farthest[n], 9), n);
            b.due("fewest(" + (farthest[n] + 1) + ", 9)", x.fewest(farthest[n] + 1, 9), n + 1);
        }
        b.due("fewest(60, 9)", x.fewest(60, 9), 15);
        // Up to the most told: v * v in 2 v - 1; with one less it takes one more.
        for (int v = 2; v <= 7; v++) {
            b.due("fewest(" + v * v + ", " + v + ")", x.fewest(v * v, v), 2 * v - 1);
            b.due("fewest(" + v * v + ", " + (v + 1) + ")", x.fewest(v * v, v + 1), 2 * v - 1);
            b.due("fewest(" + v * v + ", " + (v - 1) + ")", x.fewest(v * v, v - 1), v == 2 ? 4 : 2 * v);
        }
        b.row("fewest(far, 1)", x, (y, v) -> y.fewest(v, 1), 0, 0, 1, 2, 3);
        b.due("fewest(60, 1)", x.fewest(60, 1), 60);
        b.due("fewest(60, 2)", x.fewest(60, 2), 31);
        b.of(34, "FEWEST SAMPLES. NONE for others (0 .. 60; 1 .. 9).");
        b.row("fewest(far, 9)", x, (y, v) -> y.fewest(v, 9), -1, -1, 0, 1);
        b.row("fewest(far, 1)", x, (y, v) -> y.fewest(v, 1), 59, 59, 60, -1);
        b.row("fewest(60, most)", x, (y, v) -> y.fewest(60, v), 0, -1, 60, 31);
        b.row("fewest(60, most)", x, (y, v) -> y.fewest(60, v), 8, 15, 15, -1);
        b.outside("fewest(.., 9)", (y, v) -> y.fewest(v, 9), 0, 60, -1);
        b.outside("fewest(9, ..)", (y, v) -> y.fewest(9, v), 1, 9, -1);
        b.outside("fewest(0, ..)", (y, v) -> y.fewest(0, v), 1, 9, -1);
    }

    private static void plans(int far, int most, long... speeds) {
        HeadServo x = new HeadServo();
        b.row("plan(" + far + ", " + most + ", i)", x, (y, v) -> y.plan(far, most, v), 0, speeds);
        b.due("plan(" + far + ", " + most + ") behind the last", x.plan(far, most, speeds.length), -1);
        b.due("plan(" + far + ", " + most + ") ahead of the first", x.plan(far, most, -1), -1);
        b.due("fewest(" + far + ", " + most + ")", x.fewest(far, most), speeds.length);
    }

    private static void plan() {
        b.of(35, "A PLAN: SPEEDS of these; of like ones the lowest first one, then the next, ...");
        plans(0, 1);
        plans(0, 9);
        plans(1, 1, 1);
        plans(1, 9, 1);
        plans(2, 9, 1, 1);
        plans(3, 9, 1, 1, 1);
        plans(3, 1, 1, 1, 1);
        plans(4, 9, 1, 2, 1);
        plans(4, 2, 1, 2, 1);
        plans(4, 1, 1, 1, 1, 1);
        plans(5, 9, 1, 1, 2, 1);
        plans(7, 9, 1, 1, 2, 2, 1);
        plans(8, 9, 1, 2, 2, 2, 1);
        plans(9, 3, 1, 2, 3, 2, 1);
        plans(9, 2, 1, 1, 2, 2, 2, 1);
        plans(11, 9, 1, 2, 2, 3, 2, 1);
        plans(15, 9, 1, 2, 3, 3, 3, 2, 1);
        plans(57, 9, 1, 1, 2, 3, 4, 5, 6, 7, 7, 6, 5, 4, 3, 2, 1);
        plans(60, 9, 1, 2, 3, 4, 4, 5, 6, 7, 7, 6, 5, 4, 3, 2, 1);
        plans(60, 5, 1, 2, 3, 4, 5, 5, 5, 5, 5, 5, 5, 5, 4, 3, 2, 1);
        plans(50, 6, 1, 2, 2, 3, 4, 5, 6, 6, 6, 5, 4, 3, 2, 1);
        b.of(35, "A PLAN: the i-th SPEED. NONE: there is none such, and for others (likewise).");
        b.outside("plan(.., 9, 0)", (y, v) -> y.plan(v, 9, 0), 0, 60, -1);
        b.outside("plan(9, .., 0)", (y, v) -> y.plan(9, v, 0), 1, 9, -1);
        b.outside("plan(9, 9, ..)", (y, v) -> y.plan(9, 9, v), 0, 4, -1);
        b.outside("plan(60, 1, ..)", (y, v) -> y.plan(60, 1, v), 0, 59, -1);
        b.due("plan(60, 1, 59)", new HeadServo().plan(60, 1, 59), 1);
        b.refused("plan(0, 1, 0)", y -> y.plan(0, 1, 0), -1);
    }

    private static void learn() {
        b.of(36, "from 0 on: each TURN more by what is left times gain by 16 (cut).");
        int[][] rows = {{10, 8, 0, 0}, {10, 8, 1, 5}, {10, 8, 2, 7}, {10, 8, 3, 8}, {10, 8, 4, 9}, {10, 8, 5, 9}, {10, 8, 999, 9},
            {-10, 8, 0, 0}, {-10, 8, 1, -5}, {-10, 8, 2, -7}, {-10, 8, 999, -9}, {15, 1, 999, 0}, {16, 1, 1, 1}, {16, 1, 2, 1},
            {17, 1, 1, 1}, {17, 1, 2, 2}, {17, 1, 3, 2}, {-15, 1, 999, 0}, {-16, 1, 1, -1}, {-17, 1, 999, -2}, {99, 16, 0, 0},
            {99, 16, 1, 99}, {99, 16, 2, 99}, {-99, 16, 1, -99}, {99, 15, 1, 92}, {99, 15, 2, 98}, {99, 15, 3, 98}, {50, 0, 999, 0},
            {1, 15, 999, 0}, {1, 16, 1, 1}, {0, 16, 999, 0}};
        for (int[] w : rows) {
            b.due("learn(" + w[0] + ", " + w[1] + ", " + w[2] + ")", new HeadServo().learn(w[0], w[1], w[2]), w[3]);
        }
        b.of(36, "LEARNT behind so many TURNS. -1000 for others (-99 .. 99; 0 .. 16; 0 .. 999).");
        b.row("learn(off, 16, 1)", new HeadServo(), (y, v) -> y.learn(v, 16, 1), -100, -1000, -99, -98);
        b.row("learn(off, 16, 1)", new HeadServo(), (y, v) -> y.learn(v, 16, 1), 98, 98, 99, -1000);
        b.row("learn(16, gain, 1)", new HeadServo(), (y, v) -> y.learn(16, v, 1), -1, -1000, 0, 1);
        b.row("learn(16, gain, 1)", new HeadServo(), (y, v) -> y.learn(16, v, 1), 15, 15, 16, -1000);
        b.row("learn(9, 16, turns)", new HeadServo(), (y, v) -> y.learn(9, 16, v), -1, -1000, 0, 9);
        b.row("learn(9, 16, turns)", new HeadServo(), (y, v) -> y.learn(9, 16, v), 998, 9, 9, -1000);
        b.outside("learn(.., 1, 1)", (y, v) -> y.learn(v, 1, 1), -99, 99, -1000);
        b.outside("learn(9, .., 1)", (y, v) -> y.learn(9, v, 1), 0, 16, -1000);
        b.outside("learn(9, 1, ..)", (y, v) -> y.learn(9, 1, v), 0, 999, -1000);
    }

    private static void rests() {
        b.of(37, "IT RESTS behind as few TURNS as it is then what it stays.");
        int[][] rows = {{10, 8, 4}, {-10, 8, 4}, {10, 16, 1}, {10, 0, 0}, {0, 0, 0}, {0, 16, 0}, {15, 1, 0}, {16, 1, 1}, {17, 1, 2},
            {-17, 1, 2}, {1, 15, 0}, {2, 8, 1}, {99, 16, 1}, {99, 15, 2}, {-99, 15, 2}, {99, 0, 0}};
        for (int[] w : rows) b.due("rests(" + w[0] + ", " + w[1] + ")", new HeadServo().rests(w[0], w[1]), w[2]);
        for (int off : new int[] {-99, -50, -1, 1, 50, 99}) {
            for (int gain = 0; gain <= 16; gain++) {
                HeadServo x = new HeadServo();
                int turns = x.rests(off, gain);
                String told = "rests(" + off + ", " + gain + ")";
                b.due(told + " is what it stays", x.learn(off, gain, turns), x.learn(off, gain, 999));
                if (turns > 0) b.due(told + " is as few", x.learn(off, gain, turns - 1) == x.learn(off, gain, 999), false);
            }
        }
        b.of(37, "IT RESTS: behind how many TURNS. NONE for others (likewise).");
        b.outside("rests(.., 1)", (y, v) -> y.rests(v, 1), -99, 99, -1);
        b.outside("rests(9, ..)", (y, v) -> y.rests(9, v), 0, 16, -1);
    }

    private static void gain() {
        b.of(38, "THE BEST GAIN (0 .. 16; of 0 OFF 0): by which least is left at last, of like ones that rests soonest, then the lowest.");
        // By 16 nothing is left behind one TURN; by less there is always something left.
        b.row("gain(off)", new HeadServo(), (y, v) -> y.gain(v), -2, 16, 16, 0, 16, 16);
        b.of(38, "THE BEST GAIN. NONE for others (likewise).");
        b.row("gain(off)", new HeadServo(), (y, v) -> y.gain(v), -100, -1, 16, 16);
        b.row("gain(off)", new HeadServo(), (y, v) -> y.gain(v), 98, 16, 16, -1);
        b.outside("gain", (y, v) -> y.gain(v), -99, 99, -1);
    }

    private static void request() {
        b.of(39, "A REQUEST: how many there are (track NONE: none any more). -2 for others (0 .. 63), or if there are 6.");
        HeadServo x = new HeadServo();
        b.due("request(NONE) of none", x.request(-1), 0);
        int[] tracks = {0, 63, 1, 62, 1, 30};
        for (int i = 0; i < 6; i++) {
            b.due("request(" + tracks[i] + ")", x.request(tracks[i]), i + 1);
            b.due("about(3)", x.about(3), i + 1);
        }
        b.due("request(0) of 6", x.request(0), -2);
        b.due("request(NONE) of 6", x.request(-1), 0);
        b.due("about(3) then", x.about(3), 0);
        b.due("order(NONE) then", x.order(-1), 0);
        b.due("request(63)", x.request(63), 1);
        b.due("order(0) of the new one", x.order(0), 63);
        b.outside("request", (y, v) -> y.request(v), -1, 63, -2);
        for (int track : new int[] {0, 63, 64}) {
            b.refused("request(" + track + ") of 6", y -> {
                Heads.busy(y);
                for (int i = 0; i < 6; i++) y.request(5 * i);
            }, y -> y.request(track), -2);
        }
        b.of(39, "REQUESTS (6 at most; told: TRACKS).");
        HeadServo z = Heads.asked(0, 9, 9, 9, 9, 9);
        b.due("a sixth", z.request(9), 6);
        b.due("a seventh", z.request(9), -2);
        b.due("about(3)", z.about(3), 6);
    }

    private static void order() {
        b.of(40, "THE BEST ORDER: how far in all (i NONE), the i-th TRACK. -2: there is none such, and for others.");
        b.row("order(i) of none", new HeadServo(), (y, v) -> y.order(v), -2, -2, 0, -2, -2);
        b.row("order(i) of one", Heads.asked(5, 8), (y, v) -> y.order(v), -2, -2, 3, 8, -2);
        b.row("order(i) of two", Heads.asked(5, 8, 4), (y, v) -> y.order(v), -2, -2, 5, 4, 8, -2);
        b.row("order(i) of six upwards", Heads.asked(0, 1, 2, 3, 61, 62, 63), (y, v) -> y.order(v), -2, -2, 63, 1, 2, 3, 61, 62, 63, -2);
        b.row("order(i) of six downwards", Heads.asked(0, 63, 62, 61, 3, 2, 1), (y, v) -> y.order(v), -2, -2, 63, 1, 2, 3, 61, 62, 63, -2);
        b.row("order(i) of six, the last being asked for twice", Heads.asked(0, 1, 2, 3, 61, 63, 63), (y, v) -> y.order(v), -2, -2, 63, 1, 2, 3, 61, 63, 63, -2);
        b.row("order(i) of six", Heads.asked(0, 63, 1, 62, 2, 61, 3), (y, v) -> y.order(v), -2, -2, 63, 1, 2, 3, 61, 62, 63, -2);
        // Three are asked for there.
        b.outside("order", (y, v) -> y.order(v), -1, 2, -2);
    }

    private static void rows(int track, int[] tracks, long far, long... row) {
        HeadServo x = Heads.asked(track, tracks);
        StringBuilder told = new StringBuilder();
        for (int t : tracks) told.append(' ').append(t);
        b.due("order(NONE) of" + told + " from " + track, x.order(-1), far);
        b.row("order(i) of" + told + " from " + track, x, (y, v) -> y.order(v), 0, row);
    }

    private static void bestOrder() {
        b.of(40, "THE BEST ORDER: TRACKS one after the other from that of PLACE on, how far in all (by TRACKS) least; of like ones the lowest row of TRACKS.");
        rows(10, new int[] {10}, 0, 10);
        rows(10, new int[] {9}, 1, 9);
        rows(10, new int[] {11}, 1, 11);
        rows(10, new int[] {0, 63}, 10 + 63, 0, 63);
        // As near below as above, nearer above, nearer below.
        rows(10, new int[] {14, 6}, 4 + 8, 6, 14);
        rows(10, new int[] {13, 6}, 3 + 7, 13, 6);
        rows(10, new int[] {15, 6}, 4 + 9, 6, 15);
        rows(10, new int[] {14, 12, 6, 10}, 12, 6, 10, 12, 14);
        rows(10, new int[] {13, 12, 6, 10}, 10, 10, 12, 13, 6);
        // The lowest row of those that are as far: what lies on the way up may wait for the way down.
        rows(10, new int[] {13, 11, 6}, 10, 11, 13, 6);
        rows(10, new int[] {13, 8, 6}, 10, 13, 8, 6);
        rows(10, new int[] {12, 9, 8}, 6, 8, 9, 12);
        rows(10, new int[] {5, 8, 5}, 5, 8, 5, 5);
        rows(10, new int[] {10, 10, 9}, 1, 9 + 1, 10, 9);
        rows(10, new int[] {10, 11, 9}, 3, 9, 10, 11);
        rows(0, new int[] {0, 0}, 0, 0, 0);
        rows(63, new int[] {0, 63}, 63, 63, 0);
        rows(30, new int[] {20, 25, 40, 35, 30, 30}, 30, 20, 25, 30, 30, 35, 40);
        b.of(40, "(what is where it is is there already; nothing asked for: 0, here and in what follows)");
        b.due("sweep(true) of nothing", Heads.asked(10).sweep(true), 0);
        b.due("sweep(false) of nothing", Heads.asked(10).sweep(false), 0);
        b.due("nearest() of nothing", Heads.asked(10).nearest(), 0);
        b.due("order(NONE) of nothing", Heads.asked(10).order(-1), 0);
        b.due("sweep(true) of here", Heads.asked(10, 10, 10).sweep(true), 0);
        b.due("sweep(false) of here", Heads.asked(10, 10, 10).sweep(false), 0);
        b.due("nearest() of here", Heads.asked(10, 10, 10).nearest(), 0);
        HeadServo x = Heads.asked(10, 0, 63, 1, 2, 3, 4);
        x.request(-1);
        b.due("sweep(true) of nothing any more", x.sweep(true), 0);
        b.due("nearest() of nothing any more", x.nearest(), 0);
    }

    private static void sweep() {
        b.of(41, "A SWEEP: up from there to the highest asked for above, then down to the lowest one below (up true), or the other way (up false): how far");
        int[][] rows = {{10, 12, 5, 2 + 7, 5 + 7}, {10, 11, 9, 1 + 2, 1 + 2}, {10, 12, 15, 5, 5}, {10, 2, 4, 8, 8}, {10, 10, 12, 2, 2},
            {10, 10, 8, 2, 2}, {10, 11, 11, 1, 1}, {10, 9, 9, 1, 1}, {0, 0, 63, 63, 63}, {63, 0, 63, 63, 63}, {1, 0, 63, 62 + 63, 1 + 63}};
        for (int[] w : rows) {
            String told = " from " + w[0] + " of " + w[1] + " and " + w[2];
            b.due("sweep(true)" + told, Heads.asked(w[0], w[1], w[2]).sweep(true), w[3]);
            b.due("sweep(false)" + told, Heads.asked(w[0], w[1], w[2]).sweep(false), w[4]);
        }
        HeadServo x = Heads.asked(20, 22, 40, 19, 3, 20, 30);
        b.due("sweep(true) of six", x.sweep(true), 20 + 37);
        b.due("sweep(false) of six", x.sweep(false), 17 + 37);
    }

    private static void nearest() {
        b.of(42, "THE NEAREST FIRST, of like ones the lower TRACK: how far.");
        b.due("nearest(), the lower of like ones", Heads.asked(10, 11, 9, 13).nearest(), 1 + 2 + 2);
        b.due("nearest(), the lower of like ones being asked for first", Heads.asked(10, 9, 11, 13).nearest(), 1 + 2 + 2);
        b.due("nearest(), the lower of like ones being asked for last", Heads.asked(10, 13, 11, 9).nearest(), 1 + 2 + 2);
        b.due("nearest(), the lower of like ones, then on", Heads.asked(10, 11, 9, 8, 13).nearest(), 1 + 1 + 3 + 2);
        b.due("nearest(), one nearer above", Heads.asked(10, 11, 8, 7).nearest(), 1 + 3 + 1);
        b.due("nearest(), one nearer below", Heads.asked(10, 12, 9, 13).nearest(), 1 + 3 + 1);
        b.due("nearest() of the same", Heads.asked(10, 12, 12, 10).nearest(), 2);
        b.due("nearest() of six", Heads.asked(20, 21, 19, 23, 16, 28, 9).nearest(), 1 + 2 + 2 + 5 + 12 + 7);
        b.due("nearest() of the ends", Heads.asked(31, 0, 63).nearest(), 31 + 63);
        b.due("nearest() of the ends from 32", Heads.asked(32, 0, 63).nearest(), 31 + 63);
        b.due("nearest() of one", Heads.asked(0, 63).nearest(), 63);
    }
}
