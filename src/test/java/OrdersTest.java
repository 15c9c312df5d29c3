/** Promises 39 to 52: requests and sectors, whose law it was. */
public final class OrdersTest {
    private static final Check c = new Check();

    public static void main(String[] args) {
        request();
        order();
        sweep();
        nearest();
        steady();
        spread();
        mean();
        window();
        longest();
        said();
        whose();
        lost();
        far();
        worst();
        c.end();
    }

    /** A head over a TRACK (its PLACE is shaken there). */
    private static HeadServo over(int track, int... requests) {
        HeadServo x = new HeadServo();
        int left = track * 16;
        while (left > 0) {
            x.shake(Math.min(40, left));
            left -= Math.min(40, left);
        }
        for (int r : requests) x.request(r);
        return x;
    }

    private static void request() {
        HeadServo x = new HeadServo();
        c.due("request(0)", x.request(0), 1);
        c.due("request(63)", x.request(63), 2);
        c.due("request(63) again", x.request(63), 3);
        c.due("request(64)", x.request(64), -2);
        c.due("request(-2)", x.request(-2), -2);
        c.due("request(1)", x.request(1), 4);
        c.due("request(2)", x.request(2), 5);
        c.due("request(3)", x.request(3), 6);
        c.due("request(4) of 6", x.request(4), -2);
        c.due("about(3)", x.about(3), 6);
        c.due("request(NONE)", x.request(-1), 0);
        c.due("about(3) then", x.about(3), 0);
        c.due("request(NONE) of none", x.request(-1), 0);
        c.due("request(4)", x.request(4), 1);
    }

    private static void rows(HeadServo x, int far, int... want) {
        c.due("order(-1)", x.order(-1), far);
        for (int i = 0; i < want.length; i++) c.due("order(" + i + ")", x.order(i), want[i]);
        c.due("order(behind)", x.order(want.length), -2);
        c.due("order(-2)", x.order(-2), -2);
    }

    private static void order() {
        rows(over(10), 0);
        rows(over(10, 10), 0, 10);
        rows(over(10, 12, 5, 20), 20, 5, 12, 20);
        rows(over(10, 20, 0), 30, 0, 20);
        rows(over(10, 21, 0), 31, 0, 21);
        rows(over(10, 19, 0), 28, 19, 0);
        rows(over(10, 19, 15, 0), 28, 15, 19, 0);
        rows(over(10, 5, 8, 5), 5, 8, 5, 5);
        // 12 first is as near, 9 ahead of 8, too.
        rows(over(10, 12, 9, 8), 6, 8, 9, 12);
        rows(over(10, 10, 11, 9), 3, 9, 10, 11);
        rows(over(0, 63, 1, 62, 2, 61, 3), 63, 1, 2, 3, 61, 62, 63);
        rows(over(30, 20, 25, 40, 35, 30, 30), 30, 20, 25, 30, 30, 35, 40);
    }

    private static void sweep() {
        HeadServo x = over(10);
        c.due("sweep(true) of none", x.sweep(true), 0);
        c.due("sweep(false) of none", x.sweep(false), 0);
        x = over(10, 12, 5);
        c.due("sweep(true)", x.sweep(true), 2 + 7);
        c.due("sweep(false)", x.sweep(false), 5 + 7);
        x = over(10, 12, 15, 10);
        c.due("sweep(true), none below", x.sweep(true), 5);
        c.due("sweep(false), none below", x.sweep(false), 5);
        x = over(10, 2, 4);
        c.due("sweep(true), none above", x.sweep(true), 8);
        c.due("sweep(false), none above", x.sweep(false), 8);
        x = over(10, 10, 10);
        c.due("sweep(true) here", x.sweep(true), 0);
        c.due("sweep(false) here", x.sweep(false), 0);
    }

    private static void nearest() {
        c.due("nearest() of none", over(10).nearest(), 0);
        c.due("nearest()", over(10, 13, 8, 20).nearest(), 2 + 5 + 7);
        // 9 and 11 are as near: 9 first, then 8 (1), 11 (3), 13 (2).
        c.due("nearest(), of like ones the lower", over(10, 11, 9, 8, 13).nearest(), 1 + 1 + 3 + 2);
        c.due("nearest() of the same", over(10, 12, 12, 10).nearest(), 2);
        c.due("nearest() is longer than the best", over(10, 7, 12, 0).nearest(), 2 + 5 + 7);
        c.due("nearest() goes astray", over(10, 11, 8, 14, 2).nearest(), 1 + 3 + 6 + 12);
    }

    private static void steady() {
        HeadServo x = new HeadServo();
        c.due("steady() anew", x.steady(), 255);
        x.wobble(0, 3);
        x.wobble(1, 4);
        x.wobble(2, -3);
        x.wobble(3, -4);
        c.due("steady()", x.steady(), 245);
        x.lose(0);
        x.lose(7);
        c.due("steady() of those not LOST", x.steady(), 116);
        HeadServo y = new HeadServo();
        y.wobble(0, 5);
        y.day(1);
        c.due("of(0, 1)", y.of(0, 1), 1);
        c.due("WOBBLE less LEARNT is 4", y.steady(), 254);
        HeadServo z = new HeadServo();
        z.wobble(0, 7);
        z.shake(9);
        z.day(1);
        c.due("LEARNT 17 / 4", z.of(0, 1), 4);
        c.due("WOBBLE less LEARNT is 3", z.steady(), 255);
    }

    private static void spread() {
        HeadServo x = new HeadServo();
        c.due("spread(false) anew", x.spread(false), 0);
        x.wobble(0, 7);
        x.wobble(1, 3);
        for (int s = 2; s < 8; s++) x.wobble(s, 5);
        x.day(1);
        c.due("LEARNT", x.of(0, 1), 2);
        c.due("spread(false)", x.spread(false), 4);
        c.due("spread(true)", x.spread(true), 2);
        x.lose(0);
        c.due("spread(false) without 0", x.spread(false), 2);
        for (int s = 1; s < 8; s++) x.lose(s);
        c.due("spread(false) of none", x.spread(false), 0);
        c.due("spread(true) of none", x.spread(true), 0);
        x.lose(0);
        c.due("spread(false) of one", x.spread(false), 0);
    }

    private static void mean() {
        HeadServo x = new HeadServo();
        c.due("mean(false) anew", x.mean(false), 0);
        c.due("mean(true) anew", x.mean(true), 1);
        x.wobble(0, 7);
        c.due("mean(false)", x.mean(false), 7);
        c.due("mean(true)", x.mean(true), 8);
        x.wobble(1, -3);
        c.due("mean(false) of 4 by 8", x.mean(false), 1);
        c.due("mean(true) of 4 by 8", x.mean(true), 2);
        x.wobble(0, -7);
        x.wobble(2, -2);
        c.due("mean(false) of -12 by 8", x.mean(false), -3);
        c.due("mean(true) of -12 by 8", x.mean(true), 2);
        x.lose(7);
        x.lose(6);
        c.due("mean(false) of -12 by 6", x.mean(false), -2);
        c.due("mean(true) of -12 by 6", x.mean(true), 1);
        for (int s = 0; s < 6; s++) x.lose(s);
        c.due("mean(false) of none", x.mean(false), 0);
        c.due("mean(true) of none", x.mean(true), 1);
        HeadServo y = new HeadServo();
        y.wobble(0, 7);
        y.day(1);
        c.due("mean(false) less LEARNT", y.mean(false), 5);
    }

    private static void window() {
        HeadServo x = new HeadServo();
        c.due("window(0)", x.window(0), -1);
        c.due("window(9)", x.window(9), -1);
        c.due("window(8)", x.window(8), 0);
        int[] wobbles = {1, -4, 2, 5, -2, 3, 6, 0};
        for (int s = 0; s < 8; s++) x.wobble(s, wobbles[s]);
        c.due("window(1)", x.window(1), 7);
        c.due("window(2), around", x.window(2), 7);
        c.due("window(3)", x.window(3), 0);
        c.due("window(4)", x.window(4), 7);
        x.lose(7);
        c.due("window(1) without 7", x.window(1), 0);
        c.due("window(2) without 7", x.window(2), 4);
        c.due("window(7) without 7", x.window(7), 0);
        c.due("window(8) without 7", x.window(8), -1);
        for (int s = 0; s < 7; s++) x.lose(s);
        c.due("window(1) of none", x.window(1), -1);
    }

    private static void longest() {
        HeadServo x = new HeadServo();
        c.due("longest() anew", x.longest(), 8);
        x.lose(3);
        c.due("longest() without 3", x.longest(), 7);
        x.wobble(6, 4);
        c.due("longest() around", x.longest(), 4);
        for (int s = 0; s < 8; s++) x.wobble(s, -4);
        c.due("longest() of none", x.longest(), 0);
        x.wobble(3, 0);
        c.due("longest() of a LOST one", x.longest(), 0);
        x.wobble(7, 3);
        c.due("longest() of one", x.longest(), 1);
    }

    private static void said() {
        HeadServo x = new HeadServo();
        c.due("said(1000, 0)", x.said(1000, 0), -2);
        c.due("said(0, 10)", x.said(0, 10), -2);
        c.due("said(0, -10)", x.said(0, -10), -2);
        c.due("said(999, 9)", x.said(999, 9), 1);
        c.due("said(-999, -9)", x.said(-999, -9), 2);
        for (int i = 3; i <= 8; i++) c.due("said(0, 0)", x.said(0, 0), i);
        c.due("said(0, 0) of 8", x.said(0, 0), -2);
        c.due("about(4)", x.about(4), 8);
        c.due("said(-1000, 0)", x.said(-1000, 0), 0);
        c.due("about(4) then", x.about(4), 0);
        c.due("said(least, 99)", x.said(Integer.MIN_VALUE, 99), 0);
    }

    private static void whose() {
        HeadServo x = new HeadServo();
        c.due("whose() of no TEXTS", x.whose(), 0);
        Check.read(x, "pulls error/2;");
        Check.read(x, "learns 3;");
        Check.read(x, "pulls 20-error*0;");
        Check.read(x, "pulls 0-curve error;");
        c.due("whose() of none SAID", x.whose(), 15);
        x.said(-1, 1);
        c.due("whose()", x.whose(), 10);
        // By what is so without: curve 15 is 5, 4 at most.
        x.said(-15, 4);
        c.due("whose() then", x.whose(), 2);
        x.said(-1000, 0);
        x.said(50, 9);
        c.due("whose(), held at 9", x.whose(), 5);
        x.said(-1000, 0);
        x.said(0, 0);
        c.due("whose() at rest", x.whose(), 11);
        x.day(1);
        c.due("SPEED", x.is(3), -1);
        c.due("whose() by SPEED as now", x.whose(), 9);
        c.due("ERROR stays", x.is(5), 1);
    }

    private static void lost() {
        HeadServo x = new HeadServo();
        c.due("lost()", x.lost(), 0);
        for (int s = 0; s < 8; s++) x.lose(s);
        c.due("lost() of all", x.lost(), 255);
        x.lose(6);
        c.due("lost() but one", x.lost(), 191);
    }

    private static void far() {
        HeadServo x = new HeadServo();
        c.due("far(0)", x.far(0), 0);
        c.due("far(1)", x.far(1), -16);
        c.due("far(63)", x.far(63), -1008);
        x.shake(40);
        c.due("far(0) then", x.far(0), 40);
        c.due("far(-1)", x.far(-1), -10000);
        c.due("far(64)", x.far(64), -10000);
    }

    private static void worst() {
        HeadServo x = new HeadServo();
        c.due("worst() anew", x.worst(), 0);
        x.wobble(3, -5);
        x.wobble(5, 5);
        c.due("worst(), of like ones the lowest", x.worst(), 3);
        x.lose(3);
        c.due("worst() without 3", x.worst(), 5);
        for (int s = 0; s < 8; s++) {
            if (s != 3) x.lose(s);
        }
        c.due("worst() of none", x.worst(), -1);
        HeadServo y = new HeadServo();
        y.wobble(0, 7);
        y.wobble(1, -6);
        y.day(1);
        c.due("worst() less LEARNT", y.worst(), 1);
    }
}
