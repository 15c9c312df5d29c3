/**
 * What an object tells of itself, in several ways: some of the calls change what others would tell, so each way takes an
 * object of its own.
 */
final class Trace {
    static final int WAYS = 7;

    private Trace() {
    }

    static String of(HeadServo x, int way) {
        StringBuilder b = new StringBuilder();
        switch (way) {
            case 0: state(b, x); break;
            case 1: steps(b, x); break;
            case 2: learntSteps(b, x); break;
            case 3: bookSteps(b, x); break;
            case 4: image(b, x); break;
            case 5: texts(b, x); break;
            default: later(b, x); break;
        }
        return b.toString();
    }

    private static void add(StringBuilder b, String name, long value) {
        b.append(name).append(' ').append(value).append("; ");
    }

    private static void head(StringBuilder b, HeadServo x) {
        for (int i = 0; i < 9; i++) add(b, "is(" + i + ")", x.is(i));
    }

    private static void state(StringBuilder b, HeadServo x) {
        for (int i = 0; i < 6; i++) add(b, "about(" + i + ")", x.about(i));
        head(b, x);
        for (int s = 0; s < 8; s++) {
            for (int i = 0; i < 3; i++) add(b, "of(" + s + ", " + i + ")", x.of(s, i));
        }
        int lines = x.book(-1, 0);
        add(b, "lines", lines);
        for (int i = 0; i < lines; i++) {
            for (int k = 0; k < 3; k++) add(b, "book(" + i + ", " + k + ")", x.book(i, k));
        }
        add(b, "fault(0)", x.fault(0));
        add(b, "fault(1)", x.fault(1));
        for (int i = -1; i < 6; i++) add(b, "order(" + i + ")", x.order(i));
        add(b, "pulls()", x.pulls());
        add(b, "whose()", x.whose());
    }

    private static void steps(StringBuilder b, HeadServo x) {
        for (int i = 0; i <= 30; i++) {
            add(b, "undo()", x.undo());
            head(b, x);
        }
    }

    private static void learntSteps(StringBuilder b, HeadServo x) {
        for (int i = 0; i <= 30; i++) {
            add(b, "undo()", x.undo());
            for (int s = 0; s < 8; s++) add(b, "LEARNT of " + s, x.of(s, 1));
        }
    }

    private static void bookSteps(StringBuilder b, HeadServo x) {
        for (int i = 0; i <= 30; i++) {
            add(b, "undo()", x.undo());
            int lines = x.book(-1, 0);
            add(b, "lines", lines);
            for (int k = 0; k < 3; k++) {
                add(b, "eldest " + k, x.book(0, k));
                add(b, "latest " + k, x.book(lines - 1, lines == 0 ? 9 : k));
            }
        }
    }

    private static void image(StringBuilder b, HeadServo x) {
        add(b, "back()", x.back());
        state(b, x);
        for (int i = 0; i < 5; i++) {
            add(b, "undo()", x.undo());
            head(b, x);
        }
    }

    /** What the tape reads as, and what each of the TEXTS does. */
    private static void texts(StringBuilder b, HeadServo x) {
        add(b, "text()", x.text());
        for (int i = 0; i < 2; i++) add(b, "fault(" + i + ")", x.fault(i));
        int texts = x.about(0);
        add(b, "TEXTS", texts);
        add(b, "bytes", x.about(5));
        for (int t = -1; t < texts; t++) {
            add(b, "by(" + t + ")", x.by(t) ? 1 : 0);
            add(b, "pulls()", x.pulls());
            for (int n = 1; n < 30; n += 7) add(b, "foretold(" + n + ", 0)", x.foretold(n, 0));
        }
        for (int t = 0; t < texts; t++) {
            add(b, "played(" + t + ")", x.played(t));
            head(b, x);
            add(b, "LOST", x.lost());
        }
    }

    /** What comes of it if more is done. */
    private static void later(StringBuilder b, HeadServo x) {
        add(b, "day(7)", x.day(7));
        add(b, "years(777, 40)", x.years(777, 40));
        add(b, "request(61)", x.request(61));
        add(b, "said(3, 0)", x.said(3, 0));
        state(b, x);
        for (int e = 0; e < 6; e++) {
            add(b, "window(" + e + ")", x.window(e));
            add(b, "most(" + e + ")", x.most(e));
        }
    }
}
