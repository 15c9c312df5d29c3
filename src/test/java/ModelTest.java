/** Runs of random calls, each answered by HeadServo and by Model; the same runs each time. */
public final class ModelTest {
    private static final int RUNS = 900;
    // An object is used for at most 512 calls; a TEXT that is fed takes up to twenty of them.
    private static final int LAST_CALL = 512;
    private static final int LAST_BEGUN = 490;
    private static int wrong = 0;

    private final HeadServo x = new HeadServo();
    private final Model m = new Model();
    private final Draws d;
    private final int run;
    private int calls;
    private String call;
    private long got;
    private long want;

    private ModelTest(int run) {
        this.run = run;
        d = new Draws(run * 7919L + 11);
    }

    private static long n(boolean b) {
        return b ? 1 : 0;
    }

    private void say(String name, long got, long want) {
        calls++;
        call = name;
        this.got = got;
        this.want = want;
        if (got != want) {
            wrong++;
            if (wrong <= 20) System.out.println("run " + run + ": " + call + " answered " + got + ", due is " + want);
        }
    }

    private void feedText(String text) {
        if (d.upTo(20) != 0) say("end(0)", x.end(0), m.end(0));
        for (int i = 0; i < text.length(); i += 20) {
            int[] v = new int[5];
            for (int k = 0; k < 20; k++) {
                int c = i + k < text.length() ? text.charAt(i + k) : 0;
                v[k / 4] = v[k / 4] << 8 | c;
            }
            say("feed", x.feed(v[0], v[1], v[2], v[3], v[4]), m.feed(v[0], v[1], v[2], v[3], v[4]));
        }
        say("end", x.end(text.length()), m.end(text.length()));
        say("text() of [" + text + "]", x.text(), m.text());
        say("fault(0) of [" + text + "]", x.fault(0), m.fault(0));
        say("fault(1) of [" + text + "]", x.fault(1), m.fault(1));
    }

    private void act(int kind) {
        int a = d.near(0, 7);
        int b;
        switch (kind) {
            case 0: b = d.near(-7, 7); say("wobble(" + a + ", " + b + ")", n(x.wobble(a, b)), n(m.wobble(a, b))); break;
            case 1: say("lose(" + a + ")", n(x.lose(a)), n(m.lose(a))); break;
            case 2: feedText(d.upTo(5) == 0 ? d.deep() : d.upTo(8) == 0 ? d.noise() : d.text()); break;
            case 3: case 4: a = d.near(-1, 3); say("by(" + a + ")", n(x.by(a)), n(m.by(a))); break;
            case 5: case 6: case 7: a = d.near(0, 63); say("seek(" + a + ")", n(x.seek(a)), n(m.seek(a))); break;
            case 8: case 9: a = d.near(-40, 40); say("shake(" + a + ")", x.shake(a), m.shake(a)); break;
            case 10: case 11: case 12: say("write()", x.write(), m.write()); break;
            case 13: case 14: case 15: case 16: case 17:
                a = d.near(1, d.upTo(1) == 0 ? 60 : 6);
                say("day(" + a + ")", x.day(a), m.day(a));
                break;
            case 18: case 19: a = d.near(0, 3); say("played(" + a + ")", x.played(a), m.played(a)); break;
            case 20: a = d.near(0, 9999); b = d.near(1, 40); say("years(" + a + ", " + b + ")", x.years(a, b), m.years(a, b)); break;
            case 21: case 22: case 23: say("undo()", x.undo(), m.undo()); break;
            case 24: a = d.near(-1, 63); say("request(" + a + ")", x.request(a), m.request(a)); break;
            case 25:
                b = d.near(-9, 9);
                a = d.upTo(12) == 0 ? -1000 - d.upTo(3) : d.upTo(1) == 0 ? d.near(-999, 999) : d.near(-12, 12);
                say("said(" + a + ", " + b + ")", x.said(a, b), m.said(a, b));
                break;
            case 26: if (d.upTo(4) == 0) say("image()", x.image(), m.image()); break;
            case 27: if (d.upTo(6) == 0) say("back()", x.back(), m.back()); break;
            case 28: a = d.near(0, 300); if (d.upTo(5) == 0) say("end(" + a + ")", x.end(a), m.end(a)); break;
            case 29: a = d.random.nextInt(); say("feed", x.feed(a, 1, -2, a, 5), m.feed(a, 1, -2, a, 5)); break;
            case 30: if (d.upTo(9) == 0) say("text()", x.text(), m.text()); break;
            default: say("undo()", x.undo(), m.undo()); break;
        }
    }

    private void ask(int kind) {
        int a;
        int b;
        switch (kind) {
            case 0: a = d.near(0, 1); say("fault(" + a + ")", x.fault(a), m.fault(a)); break;
            case 1: a = d.near(0, 7); b = d.near(0, 2); say("of(" + a + ", " + b + ")", x.of(a, b), m.of(a, b)); break;
            case 2: a = d.near(0, 8); say("is(" + a + ")", x.is(a), m.is(a)); break;
            case 3: say("pulls()", x.pulls(), m.pulls()); break;
            case 4: a = d.near(-1, 25); b = d.near(0, 2); say("book(" + a + ", " + b + ")", x.book(a, b), m.book(a, b)); break;
            case 5: a = d.near(1, 60); b = d.near(0, 1); say("foretold(" + a + ", " + b + ")", x.foretold(a, b), m.foretold(a, b)); break;
            case 6: a = d.near(0, 63); say("till(" + a + ")", x.till(a), m.till(a)); break;
            case 7: a = d.near(0, 63); say("gray(" + a + ")", x.gray(a), m.gray(a)); break;
            case 8: a = d.near(0, 63); say("track(" + a + ")", x.track(a), m.track(a)); break;
            case 9: a = d.near(0, 1023); b = d.near(0, 3); say("burst(" + a + ", " + b + ")", x.burst(a, b), m.burst(a, b)); break;
            case 10: a = d.near(0, 1023); say("reads(" + a + ")", x.reads(a, true), m.reads(a, true)); say("reads(" + a + ", false)", x.reads(a, false), m.reads(a, false)); break;
            case 11: fits(); break;
            case 12: a = d.near(0, 63); b = d.near(0, 63); say("unlike(" + a + ", " + b + ")", x.unlike(a, b), m.unlike(a, b)); break;
            case 13: a = d.near(0, 63); say("rim(" + a + ")", x.rim(a, false), m.rim(a, false)); say("rim(" + a + ", true)", x.rim(a, true), m.rim(a, true)); break;
            case 14: a = d.near(0, 1023); b = d.near(1, 9); say("curve(" + a + ", " + b + ")", x.curve(a, b), m.curve(a, b)); break;
            case 15: a = d.near(0, 64); b = d.near(1, 9); say("stop(" + a + ", " + b + ")", x.stop(a, b), m.stop(a, b)); break;
            case 16: a = d.near(0, 64); b = d.near(0, d.upTo(1) == 0 ? 1023 : 40); say("needs(" + a + ", " + b + ")", x.needs(a, b), m.needs(a, b)); break;
            case 17: a = d.near(0, 60); b = d.near(1, 9); say("fewest(" + a + ", " + b + ")", x.fewest(a, b), m.fewest(a, b)); break;
            case 18: {
                a = d.near(0, 60);
                b = d.near(1, 9);
                int i = d.near(0, 12);
                say("plan(" + a + ", " + b + ", " + i + ")", x.plan(a, b, i), m.plan(a, b, i));
                break;
            }
            case 19: {
                a = d.near(-99, 99);
                b = d.near(0, 16);
                int t = d.near(0, d.upTo(1) == 0 ? 999 : 9);
                say("learn(" + a + ", " + b + ", " + t + ")", x.learn(a, b, t), m.learn(a, b, t));
                break;
            }
            case 20: a = d.near(-99, 99); b = d.near(0, 16); say("rests(" + a + ", " + b + ")", x.rests(a, b), m.rests(a, b)); break;
            case 21: a = d.near(-99, 99); say("gain(" + a + ")", x.gain(a), m.gain(a)); break;
            default: askMore(kind); break;
        }
    }

    private void fits() {
        int p = d.upTo(1023);
        int c = d.upTo(3) == 0 ? d.near(0, 63) : m.reads(p, d.upTo(1) == 0);
        int[] b = new int[4];
        for (int i = 0; i < 4; i++) b[i] = d.upTo(4) == 0 ? d.near(-1, 16) : d.upTo(2) == 0 ? -1 : m.burst(p, i);
        String told = "(" + c + ", " + b[0] + ", " + b[1] + ", " + b[2] + ", " + b[3] + ")";
        say("fit" + told, x.fit(c, b[0], b[1], b[2], b[3]), m.fit(c, b[0], b[1], b[2], b[3]));
        say("fits" + told, x.fits(c, b[0], b[1], b[2], b[3]), m.fits(c, b[0], b[1], b[2], b[3]));
        say("blind" + told, x.blind(b[0], b[1], b[2], b[3]), m.blind(b[0], b[1], b[2], b[3]));
    }

    private void askMore(int kind) {
        int a;
        switch (kind) {
            case 22: a = d.near(-1, 6); say("order(" + a + ")", x.order(a), m.order(a)); break;
            case 23: say("sweep(true)", x.sweep(true), m.sweep(true)); break;
            case 24: say("sweep(false)", x.sweep(false), m.sweep(false)); break;
            case 25: say("nearest()", x.nearest(), m.nearest()); break;
            case 26: say("steady()", x.steady(), m.steady()); break;
            case 27: say("spread(true)", x.spread(true), m.spread(true)); break;
            case 28: say("spread(false)", x.spread(false), m.spread(false)); break;
            case 29: say("mean(false)", x.mean(false), m.mean(false)); break;
            case 30: say("mean(true)", x.mean(true), m.mean(true)); break;
            case 31: a = d.near(1, 8); say("window(" + a + ")", x.window(a), m.window(a)); break;
            case 32: say("longest()", x.longest(), m.longest()); break;
            case 33: say("whose()", x.whose(), m.whose()); break;
            case 34: say("lost()", x.lost(), m.lost()); break;
            case 35: a = d.near(0, 63); say("far(" + a + ")", x.far(a), m.far(a)); break;
            case 36: say("worst()", x.worst(), m.worst()); break;
            case 37: a = d.near(0, 4); say("most(" + a + ")", x.most(a), m.most(a)); break;
            case 38: a = d.near(0, 4); say("ledger(" + a + ")", x.ledger(a), m.ledger(a)); break;
            default: a = d.near(0, 5); say("about(" + a + ")", x.about(a), m.about(a)); break;
        }
    }

    /** All of the state that can be asked for, after the end of a run. */
    private void askAll() {
        for (int i = -1; i < 10; i++) say("is(" + i + ")", x.is(i), m.is(i));
        for (int i = -1; i < 7; i++) say("about(" + i + ")", x.about(i), m.about(i));
        for (int s = 0; s < 8; s++) {
            for (int i = 0; i < 3; i++) say("of(" + s + ", " + i + ")", x.of(s, i), m.of(s, i));
        }
        for (int i = -1; i < 26; i++) {
            for (int k = 0; k < 3; k++) say("book(" + i + ", " + k + ")", x.book(i, k), m.book(i, k));
        }
        for (int left = x.about(2); left >= 0 && calls < LAST_CALL - 11; left--) {
            say("undo()", x.undo(), m.undo());
            for (int k = 0; k < 9; k++) say("is(" + k + ") behind undo", x.is(k), m.is(k));
        }
    }

    /** Most of the CLOCK passes first, so that the run comes to 9999. */
    private void passLong() {
        feedText("day 60;day 60;day 60;day 60;day 60;day 60;day 60;day 60;day 60;day 60;day 60;day 60;day 60;day 60;");
        for (int i = d.upTo(1); i < 12; i++) say("played(0)", x.played(0), m.played(0));
    }

    public static void main(String[] args) {
        for (int run = 0; run < RUNS; run++) {
            ModelTest t = new ModelTest(run);
            if (run % 8 == 7) t.passLong();
            int last = run % 3 == 0 ? LAST_BEGUN / 4 : run % 3 == 1 ? LAST_BEGUN - 125 : LAST_BEGUN;
            while (t.calls < last && t.got == t.want) {
                if (t.d.upTo(2) == 0) t.act(t.d.upTo(30));
                else t.ask(t.d.upTo(39));
            }
            if (last < LAST_BEGUN) t.askAll();
        }
        System.out.println(wrong == 0 ? "all answers are as due" : wrong + " answers are not as due");
        if (wrong != 0) System.exit(1);
    }
}
