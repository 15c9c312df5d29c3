/** What the tests of the promises share: answers that are due, counted, and TEXTS fed byte by byte. */
final class Check {
    private int wrong = 0;
    private int asked = 0;

    void due(String call, long got, long want) {
        asked++;
        if (got != want) {
            wrong++;
            System.out.println(call + " answered " + got + ", due is " + want);
        }
    }

    void due(String call, boolean got, boolean want) {
        due(call, got ? 1 : 0, want ? 1 : 0);
    }

    void end() {
        System.out.println(wrong == 0 ? asked + " answers are as due" : wrong + " of " + asked + " answers are not as due");
        if (wrong != 0) {
            System.exit(1);
        }
    }

    static void feed(HeadServo x, String text) {
        feedBehind(x, text);
        x.end(text.length());
    }

    /** Twenty bytes a call, without a cut. */
    static void feedBehind(HeadServo x, String text) {
        for (int i = 0; i < text.length(); i += 20) {
            int[] v = new int[5];
            for (int k = 0; k < 20; k++) {
                v[k / 4] = v[k / 4] << 8 | (i + k < text.length() ? text.charAt(i + k) : 0);
            }
            x.feed(v[0], v[1], v[2], v[3], v[4]);
        }
    }

    static int read(HeadServo x, String text) {
        x.end(0);
        feed(x, text);
        return x.text();
    }

    /** A new object that is ruled by a TEXT. */
    static HeadServo ruled(String text) {
        HeadServo x = new HeadServo();
        x.by(read(x, text));
        return x;
    }

    void fault(String text, int number, int place) {
        HeadServo x = new HeadServo();
        due("text() of [" + text + "]", read(x, text), number == 0 ? 0 : -1);
        due("fault(0) of [" + text + "]", x.fault(0), number);
        due("fault(1) of [" + text + "]", x.fault(1), place);
    }

    /** What a SUM is worth in pulls, -9 .. 9, on a new object. */
    void pulls(String sum, int want) {
        due("pulls by " + sum, ruled("pulls " + sum + ";").pulls(), want);
    }
}
