/** Promises 16 to 21 and 53 to 57: what is asked of the state, the book, what is foretold, the image. */
public final class StateTest {
    private static final Check c = new Check();

    public static void main(String[] args) {
        of();
        is();
        pulls();
        book();
        foretold();
        till();
        most();
        ledger();
        image();
        imageOfAll();
        imageOfSaid();
        about();
        c.end();
    }

    private static HeadServo still() {
        HeadServo x = new HeadServo();
        for (int s = 0; s < 8; s++) x.lose(s);
        return x;
    }

    private static void of() {
        HeadServo x = new HeadServo();
        x.wobble(0, 7);
        x.wobble(7, -3);
        x.lose(7);
        x.day(1);
        c.due("of(0, 0)", x.of(0, 0), 7);
        c.due("of(0, 1)", x.of(0, 1), 2);
        c.due("of(0, 2)", x.of(0, 2), 0);
        c.due("of(7, 0)", x.of(7, 0), -3);
        c.due("of(7, 1)", x.of(7, 1), 0);
        c.due("of(7, 2)", x.of(7, 2), 1);
        c.due("of(8, 0)", x.of(8, 0), -100);
        c.due("of(-1, 0)", x.of(-1, 0), -100);
        c.due("of(0, 3)", x.of(0, 3), -100);
        c.due("of(0, -1)", x.of(0, -1), -100);
    }

    private static void is() {
        HeadServo x = new HeadServo();
        c.due("is(-1)", x.is(-1), -10000);
        c.due("is(9)", x.is(9), -10000);
        c.due("is(greatest)", x.is(Integer.MAX_VALUE), -10000);
        x.wobble(0, 7);
        x.seek(1);
        x.day(1);
        // READ 16, OFF 16 - 24 = -8, LEARNT -2, the curve of 8 is 3.
        int[] want = {1, 3955, 11, 3, 1, -8, 0, 0, 0};
        for (int i = 0; i < 9; i++) c.due("is(" + i + ")", x.is(i), want[i]);
        c.due("of(0, 1)", x.of(0, 1), -2);
    }

    private static void pulls() {
        HeadServo x = new HeadServo();
        x.seek(63);
        c.due("pulls() ahead of a SAMPLE", x.pulls(), 0);
        x.day(1);
        // ERROR -999: the curve is 44, less SPEED 4, 4 at most.
        c.due("pulls()", x.pulls(), 4);
        c.due("nothing changes", x.is(3), 4);
        Check.read(x, "learns 1;");
        x.by(0);
        c.due("pulls() of a TEXT without", x.pulls(), 4);
        Check.read(x, "pulls 20;");
        x.by(1);
        c.due("9 at most", x.pulls(), 9);
        Check.read(x, "pulls 0-20;");
        x.by(2);
        c.due("-9 at least", x.pulls(), -9);
        Check.read(x, "pulls speed-target/9;");
        x.by(3);
        c.due("by SPEED and TARGET", x.pulls(), -3);
        HeadServo y = Check.ruled("pulls 9;");
        y.day(7);
        y.by(-1);
        c.due("-4 at least", y.pulls(), -4);
    }

    private static void book() {
        HeadServo x = still();
        c.due("book(-1, 0)", x.book(-1, 0), 0);
        c.due("book(0, 0) of none", x.book(0, 0), -100);
        Check.read(x, "pulls if clock>5 then 0-9 else 0 end;");
        x.by(0);
        x.seek(9);
        x.day(2);
        x.shake(-7);
        x.day(3);
        x.write();
        x.day(2);
        int[][] want = {{0, 0, 9}, {2, 1, -7}, {4, 3, 9}, {5, 2, 9}, {6, 4, 0}};
        c.due("book(-1, 2)", x.book(-1, 2), 5);
        for (int i = 0; i < want.length; i++) {
            for (int k = 0; k < 3; k++) c.due("book(" + i + ", " + k + ")", x.book(i, k), want[i][k]);
        }
        c.due("book(5, 0)", x.book(5, 0), -100);
        c.due("book(-2, 0)", x.book(-2, 0), -100);
        c.due("book(0, 3)", x.book(0, 3), -100);
        c.due("book(0, -1)", x.book(0, -1), -100);
        for (int i = 1; i <= 30; i++) x.seek(i + 9);
        c.due("25 at most", x.book(-1, 0), 25);
        c.due("the eldest", x.book(0, 2), 15);
        c.due("the latest", x.book(24, 2), 39);
        c.due("book(25, 2)", x.book(25, 2), -100);
    }

    private static void foretold() {
        HeadServo x = new HeadServo();
        c.due("foretold(0, 0)", x.foretold(0, 0), -1);
        c.due("foretold(61, 0)", x.foretold(61, 0), -1);
        c.due("foretold(1, 2)", x.foretold(1, 2), -1);
        c.due("foretold(1, -1)", x.foretold(1, -1), -1);
        c.due("foretold(1, 0)", x.foretold(1, 0), 7);
        c.due("foretold(1, 1)", x.foretold(1, 1), 1);
        x.wobble(2, 5);
        x.seek(20);
        for (int n = 1; n <= 60; n += 7) {
            int place = x.foretold(n, 0);
            int settled = x.foretold(n, 1);
            c.due("nothing changes", x.is(0) + x.about(2) + x.book(-1, 0), 2);
            x.image();
            x.day(n);
            c.due("PLACE behind " + n, x.is(2), place);
            c.due("SETTLED behind " + n, x.is(6), settled);
            x.back();
        }
    }

    private static void till() {
        HeadServo x = new HeadServo();
        c.due("till(-1)", x.till(-1), -1);
        c.due("till(64)", x.till(64), -1);
        HeadServo y = still();
        y.day(9);
        c.due("SETTLED 0 first, also of the TARGET", y.till(0), 3);
        c.due("of another", y.till(7), 3);
        c.due("nothing changes", y.is(6), 9);
        c.due("nothing is written down", y.book(-1, 0), 1);
        HeadServo z = still();
        Check.read(z, "pulls if clock<197 then 0-9 else 0 end;");
        z.by(0);
        // Struck at each SAMPLE, SPEED is 0 then: it settles there.
        c.due("at the rim", z.till(0), 3);
        Check.read(z, "pulls if clock<198 then 2-4*(clock/2*2-clock+1) else 0 end;");
        z.by(1);
        for (int i = 0; i < 13; i++) z.shake(40);
        z.day(1);
        c.due("SPEED -2", z.is(3), -2);
        c.due("not ahead of 200", z.till(5), 199);
        Check.read(z, "pulls if clock<199 then 2-4*(clock/2*2-clock+1) else 0-speed end;");
        z.by(2);
        c.due("one more than 200", z.till(5), -1);
        z.day(1);
        c.due("just by 200", z.till(5), 200);
        for (int t = 0; t < 64; t += 9) {
            HeadServo v = new HeadServo();
            v.wobble(3, 4);
            v.day(7);
            int n = v.till(t);
            v.seek(t);
            int passed = 0;
            while (n > 0 && passed < 200 && (passed == 0 || v.is(6) < 3)) {
                v.day(1);
                passed++;
            }
            if (t != 0 && n > 0) c.due("till(" + t + ")", n, passed);
        }
    }

    private static void most() {
        HeadServo x = still();
        for (int i = -1; i <= 5; i++) c.due("most(" + i + ") of none", x.most(i), -100);
        x.seek(9);
        x.seek(4);
        x.seek(9);
        x.seek(4);
        x.seek(5);
        c.due("most(0), of like ones the lowest", x.most(0), 4);
        x.shake(3);
        x.shake(-3);
        c.due("most(1)", x.most(1), -3);
        x.shake(3);
        c.due("most(1) then", x.most(1), 3);
        x.day(3);
        c.due("most(3)", x.most(3), 5);
        x.write();
        c.due("most(2)", x.most(2), 5);
        c.due("most(4) of none yet", x.most(4), -100);
        c.due("most(5)", x.most(5), -100);
        Check.read(x, "pulls 0-9;");
        x.by(0);
        x.day(4);
        c.due("most(4)", x.most(4), 0);
    }

    private static void ledger() {
        HeadServo x = still();
        c.due("ledger(-1)", x.ledger(-1), -2);
        c.due("ledger(5)", x.ledger(5), -2);
        c.due("ledger(0) of none", x.ledger(0), 0);
        x.seek(9);
        x.seek(4);
        x.shake(1);
        x.day(3);
        x.write();
        x.write();
        x.write();
        Check.read(x, "pulls 0-9;");
        x.by(0);
        x.day(4);
        // The first pull comes just to the rim; the other three strike it, and it settles there.
        int[] want = {2, 1, 3, 2, 3};
        for (int i = 0; i < 5; i++) c.due("ledger(" + i + ")", x.ledger(i), want[i]);
        for (int i = 0; i < 30; i++) x.shake(1);
        c.due("ledger(0) of the latest 25", x.ledger(0), 0);
        c.due("ledger(1)", x.ledger(1), 25);
    }

    private static void image() {
        HeadServo x = new HeadServo();
        x.day(5);
        c.due("image()", x.image(), 5);
        int x5 = x.is(1);
        x.day(9);
        c.due("back()", x.back(), 5);
        c.due("X", x.is(1), x5);
        x.seek(3);
        c.due("back() again: it stays", x.back(), 5);
        c.due("TARGET", x.is(4), 0);
        c.due("STEPS", x.about(2), 5);
        c.due("undo()", x.undo(), 4);
        c.due("CLOCK", x.is(0), 4);
        c.due("image() anew", x.image(), 4);
        x.day(1);
        c.due("back() to that", x.back(), 4);
        HeadServo y = still();
        y.day(40);
        y.image();
        y.day(25);
        y.back();
        for (int i = 29; i >= 0; i--) {
            c.due("undo() behind back", y.undo(), i);
            c.due("CLOCK then", y.is(0), 10 + i);
        }
        y.back();
        c.due("all STEPS are there again", y.about(2), 30);
        c.due("undo() once more", y.undo(), 29);
        c.due("CLOCK 39", y.is(0), 39);
    }

    private static void imageOfAll() {
        HeadServo x = new HeadServo();
        Check.read(x, "pulls 1;");
        x.by(0);
        x.wobble(2, 5);
        x.lose(3);
        x.request(7);
        x.said(0, 1);
        x.image();
        Check.read(x, "pulls 2;");
        x.by(1);
        x.wobble(2, -5);
        x.lose(4);
        x.request(8);
        x.said(5, 5);
        Check.read(x, "pulls");
        x.feed(0, 0, 0, 0, 0);
        x.back();
        int[] want = {1, 0, 0, 1, 1, 20};
        for (int i = 0; i < 6; i++) c.due("about(" + i + ")", x.about(i), want[i]);
        c.due("pulls()", x.pulls(), 1);
        c.due("of(2, 0)", x.of(2, 0), 5);
        c.due("lost()", x.lost(), 8);
        c.due("order(0)", x.order(0), 7);
        c.due("whose()", x.whose(), 1);
        c.due("the latest FAULT stays", x.fault(0), 1);
        c.due("its place, too", x.fault(1), 5);
        c.due("another TEXT is the second", Check.read(x, "pulls 3;"), 1);
        x.by(1);
        c.due("pulls() by it", x.pulls(), 3);
        x.back();
        c.due("pulls() by the first", x.pulls(), 1);
        c.due("by(1)", x.by(1), false);
        x.request(9);
        c.due("order(1)", x.order(1), 9);
        x.said(0, 2);
        c.due("whose() of none", x.whose(), 0);
        x.back();
        c.due("whose() once more", x.whose(), 1);
        x.said(-1000, 0);
        x.said(3, 3);
        x.request(-1);
        x.request(3);
        c.due("whose() of others", x.whose(), 0);
        x.back();
        c.due("whose() as SAID ahead of the image", x.whose(), 1);
        c.due("order(0) as asked ahead of the image", x.order(0), 7);
        c.due("order(1) once more", x.order(1), -2);
    }

    private static void imageOfSaid() {
        HeadServo x = new HeadServo();
        Check.read(x, "pulls error;");
        x.said(4, 4);
        x.image();
        x.said(-1000, 0);
        x.said(5, 4);
        c.due("whose() of another ERROR", x.whose(), 0);
        x.back();
        c.due("whose() of the image's", x.whose(), 1);
    }

    private static void about() {
        HeadServo x = new HeadServo();
        c.due("about(-1)", x.about(-1), -2);
        c.due("about(6)", x.about(6), -2);
        Check.read(x, "write;");
        Check.read(x, "write;");
        x.by(1);
        x.day(3);
        x.request(1);
        x.request(1);
        x.request(1);
        x.request(1);
        x.said(1, 1);
        x.said(1, 1);
        x.said(1, 1);
        x.said(1, 1);
        x.said(1, 1);
        x.feed(0, 0, 0, 0, 0);
        x.end(6);
        int[] want = {2, 1, 3, 4, 5, 6};
        for (int i = 0; i < 6; i++) c.due("about(" + i + ")", x.about(i), want[i]);
    }
}
