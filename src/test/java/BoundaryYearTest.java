import java.util.function.IntPredicate;

/** Boundaries of YEARS and of the image (V), of promises 14 and 55 to 57, and of how long an object is used. */
public final class BoundaryYearTest {
    private static final Boundary b = new Boundary();

    public static void main(String[] args) {
        years();
        drawsOfYears();
        soughtByYears();
        shakenByYears();
        writtenByYears();
        sampleByYears();
        oneStep();
        image();
        imageOfTexts();
        back();
        about();
        calls();
        b.end();
    }

    private static int next(int x) {
        return (x * 739 + 601) % 31069;
    }

    /** The first SEED whose first draw does nothing (1 by 6, 1 by 4) and whose second is so. */
    private static int seed(IntPredicate second) {
        for (int seed = 0; seed < 10000; seed++) {
            int x = seed * 2 + 467;
            if (x % 6 == 1 && x % 4 == 1 && second.test(next(x))) return seed;
        }
        b.due("a SEED by which it is so", false, true);
        return 0;
    }

    private static void years() {
        b.of(14, "YEARS: CLOCK. NONE for others.");
        for (int seed : new int[] {0, 1, 9998, 9999}) {
            for (int n : new int[] {1, 2, 39, 40}) {
                HeadServo x = Heads.still();
                int clock = x.years(seed, n);
                b.due("years(" + seed + ", " + n + ") tells CLOCK", clock, x.is(0));
                int drawn = seed * 2 + 467;
                int samples = 0;
                for (int i = 0; i < n; i++) {
                    samples += drawn % 6 >= 3 ? 1 : 0;
                    drawn = next(drawn);
                }
                b.due("CLOCK of years(" + seed + ", " + n + ")", clock, samples);
                b.due("X of years(" + seed + ", " + n + ")", x.is(1), drawn);
            }
        }
        b.outside("years(.., 1)", (y, v) -> y.years(v, 1), 0, 9999, -1);
        b.outside("years(7, ..)", (y, v) -> y.years(7, v), 1, 40, -1);
        b.refused("years(-1, 0)", y -> y.years(-1, 0), -1);
    }

    private static void drawsOfYears() {
        b.of(14, "YEARS by a SEED: X is SEED (0 .. 9999) * 2 + 467; n times (1 .. 40): x is X, then X is anew (as in a draw)");
        // SEED 1: x 469 is 1 by 6, 1 by 4: nothing is done.
        HeadServo x = Heads.lose(new HeadServo(), 3);
        x.day(5);
        x.years(1, 1);
        b.due("X behind SEED 1", x.is(1), next(469));
        b.due("CLOCK", x.is(0), 5);
        // SEED 0: x 467 is 5 by 6: a SAMPLE, which draws from what X is then: 3955.
        HeadServo y = new HeadServo();
        Heads.rule(y, "pulls 0;learns 0;");
        y.years(0, 1);
        b.due("X behind a SAMPLE of a SECTOR that isn't LOST", y.is(1), 2860);
        b.due("ERROR by the draw 3955", y.is(5), 0);
        HeadServo z = Heads.still();
        z.years(0, 1);
        b.due("X behind a SAMPLE of a LOST SECTOR", z.is(1), 3955);
        z.years(0, 1);
        b.due("X by the same SEED again", z.is(1), 3955);
    }

    private static void soughtByYears() {
        b.of(14, "0 TRACK x / 6 mod 64 is SOUGHT, if x mod 4 is 2");
        // x is even here, so x mod 4 is 2 just if x / 6 is odd.
        for (int track : new int[] {1, 3, 31, 61, 63}) {
            int so = seed(x -> x % 6 == 0 && x % 4 == 2 && x / 6 % 64 == track);
            for (int target : new int[] {0, 1, 2, 63}) {
                HeadServo x = settledOver(target);
                int lines = x.book(-1, 0);
                x.years(so, 2);
                b.due("TARGET " + target + " behind TRACK " + track, x.is(4), track);
                b.due("SETTLED then (the TARGET can't be sought)", x.is(6), track == target ? 5 : 0);
                b.due("lines then", x.book(-1, 0), track == target ? lines : lines + 1);
                b.due("the last line's kind", x.book(x.book(-1, 0) - 1, 1), track == target ? 3 : 0);
            }
        }
        for (int track : new int[] {0, 2, 32, 60, 62}) {
            int so = seed(x -> x % 6 == 0 && x % 4 == 0 && x / 6 % 64 == track);
            for (int target : new int[] {0, 1, 2, 63}) {
                HeadServo x = settledOver(target);
                int lines = x.book(-1, 0);
                x.years(so, 2);
                b.due("TARGET by x mod 4 of 0", x.is(4), target);
                b.due("SETTLED by x mod 4 of 0", x.is(6), 5);
                b.due("lines by x mod 4 of 0", x.book(-1, 0), lines);
            }
        }
    }

    private static HeadServo settledOver(int target) {
        HeadServo x = Heads.still();
        x.seek(target);
        x.day(5);
        return x;
    }

    private static void shakenByYears() {
        b.of(14, "1 SHAKEN by x mod 11 less 5, if x mod 4 is 3");
        for (int by = -5; by <= 5; by++) {
            int much = by + 5;
            int so = seed(x -> x % 6 == 1 && x % 4 == 3 && x % 11 == much);
            int other = seed(x -> x % 6 == 1 && x % 4 == 1 && x % 11 == much);
            HeadServo x = Heads.still();
            x.day(4);
            x.image();
            x.years(so, 2);
            b.due("PLACE behind SHAKEN by " + by, x.is(2), 8 + by);
            b.due("SETTLED behind SHAKEN by " + by + " (by 0 it can't be)", x.is(6), by == 0 ? 4 : 0);
            b.due("lines behind SHAKEN by " + by, x.book(-1, 0), by == 0 ? 1 : 2);
            if (by != 0) b.due("the line", x.book(1, 2), by);
            x.back();
            x.years(other, 2);
            b.due("PLACE by x mod 4 of 1", x.is(2), 8);
            b.due("SETTLED by x mod 4 of 1", x.is(6), 4);
        }
        int low = seed(x -> x % 6 == 1 && x % 4 == 3 && x % 11 == 0);
        int high = seed(x -> x % 6 == 1 && x % 4 == 3 && x % 11 == 10);
        int[][] below = {{4, 0}, {5, 0}, {6, 1}};
        for (int[] w : below) {
            HeadServo x = Heads.shaken(Heads.still(), w[0]);
            x.years(low, 2);
            b.due("PLACE " + w[0] + " by -5", x.is(2), w[1]);
        }
        int[][] above = {{1017, 1022}, {1018, 1023}, {1019, 1023}};
        for (int[] w : above) {
            HeadServo x = Heads.shaken(Heads.still(), w[0]);
            x.years(high, 2);
            b.due("PLACE " + w[0] + " by 5", x.is(2), w[1]);
        }
    }

    private static void writtenByYears() {
        b.of(14, "2 WRITTEN (each if it can be; else nothing)");
        int so = seed(x -> x % 6 == 2);
        for (int settled = 0; settled <= 4; settled++) {
            HeadServo x = Heads.still();
            x.seek(9);
            if (settled > 0) x.day(settled);
            x.years(so, 2);
            b.due("WRITTEN by SETTLED " + settled, x.is(7), settled < 3 ? 0 : 1);
            b.due("SETTLED then", x.is(6), settled);
            b.due("written lines by SETTLED " + settled, x.ledger(2), settled < 3 ? 0 : 1);
            b.due("CLOCK", x.is(0), settled);
        }
        HeadServo y = Heads.still();
        StringBuilder all = new StringBuilder();
        for (int i = 0; i < 24; i++) all.append("write;");
        Check.read(y, all.toString());
        y.day(3);
        for (int i = 0; i < 416; i++) y.played(0);
        for (int i = 9985; i <= 9998; i++) y.write();
        y.years(so, 2);
        b.due("WRITTEN 9999 times", y.is(7), 9999);
        y.years(so, 2);
        b.due("WRITTEN 9999 times at most", y.is(7), 9999);
    }

    private static void sampleByYears() {
        b.of(14, "3, 4, 5 a SAMPLE (if it can pass).");
        for (int kind = 0; kind < 6; kind++) {
            int of = kind;
            int so = seed(x -> x % 6 == of && x % 4 < 2);
            HeadServo x = Heads.still();
            x.years(so, 2);
            b.due("CLOCK by " + kind, x.is(0), kind < 3 ? 0 : 1);
            for (int left = 0; left <= 2; left++) {
                HeadServo y = Heads.pass(Heads.still(), 9999 - left);
                b.due("years by " + kind + " with " + left + " left", y.years(so, 2), 9999 - left + (kind < 3 ? 0 : Math.min(left, 1)));
                b.due("X is drawn even so", y.is(1), next(next(so * 2 + 467)));
            }
        }
        HeadServo z = Heads.pass(Heads.still(), 9995);
        b.due("years of many at 9995", z.years(0, 40), 9999);
        b.due("years of many at 9999", z.years(5, 40), 9999);
        b.due("STEPS then", z.about(2), 30);
        z.undo();
        z.undo();
        b.due("CLOCK ahead of both", z.is(0), 9995);
    }

    private static void oneStep() {
        b.of(14, "It is one STEP: CLOCK.");
        HeadServo x = new HeadServo();
        x.years(7, 1);
        b.due("STEPS of years(7, 1)", x.about(2), 1);
        x.years(7, 40);
        b.due("STEPS of years(7, 40)", x.about(2), 2);
        x.undo();
        x.undo();
        b.row("is(what) as ahead of them", x, (y, v) -> y.is(v), 0, 0, 467, 8, 0, 0, 0, 0, 0, 0);
        b.due("lines as ahead of them", x.book(-1, 0), 0);
        for (int s = 0; s < 8; s++) b.due("LEARNT as ahead of them", x.of(s, 1), 0);
        // SEED 1 does nothing at all.
        x.years(1, 1);
        b.due("STEPS of YEARS in which nothing is done", x.about(2), 1);
        b.due("undo() of them", x.undo(), 0);
        b.due("X as ahead of them", x.is(1), 467);
        for (int i = 0; i < 31; i++) x.years(i, 40);
        b.due("30 STEPS at most", x.about(2), 30);
        b.alike("years and its undo", y -> {
            much(y);
            y.undo();
        }, y -> {
            much(y);
            y.undo();
            y.years(3, 40);
            y.undo();
        });
    }

    private static void image() {
        b.of(55, "THE IMAGE is as all is now: CLOCK.");
        HeadServo x = new HeadServo();
        b.due("image() anew", x.image(), 0);
        x.day(60);
        b.due("image() at 60", x.image(), 60);
        HeadServo y = Heads.pass(Heads.still(), 9999);
        b.due("image() at 9999", y.image(), 9999);
        b.due("about(2) stays", y.about(2), 30);
        b.of(55, "AN IMAGE: all as it is, but the tape and the latest FAULT.");
        b.alike("image(), much that is done, and back()", y1 -> {
            Heads.busy(y1);
            y1.image();
            tapeAndFault(y1);
        }, y2 -> {
            Heads.busy(y2);
            y2.image();
            much(y2);
            y2.back();
            tapeAndFault(y2);
        });
        b.alike("image() of little, much that is done, and back()", y1 -> {
            y1.day(3);
            y1.image();
            tapeAndFault(y1);
        }, y2 -> {
            y2.day(3);
            y2.image();
            much(y2);
            much(y2);
            y2.back();
            tapeAndFault(y2);
        });
        b.alike("image() of much, all taken back, and back()", y1 -> {
            much(y1);
            y1.image();
            tapeAndFault(y1);
        }, y2 -> {
            much(y2);
            y2.image();
            for (int i = 0; i <= 30; i++) y2.undo();
            y2.request(-1);
            y2.said(-1000, 0);
            y2.by(-1);
            y2.back();
            tapeAndFault(y2);
        });
        HeadServo v = new HeadServo();
        Check.read(v, "pulls error;");
        v.said(4, 4);
        v.request(5);
        v.image();
        int[][] others = {{5, 4}, {4, 5}};
        for (int[] w : others) {
            v.said(-1000, 0);
            v.said(w[0], w[1]);
            v.request(-1);
            v.request(6);
            b.due("whose() by others", v.whose(), 0);
            b.due("order(0) of others", v.order(0), 6);
            v.back();
            b.due("whose() as SAID", v.whose(), 1);
            b.due("order(0) as asked for", v.order(0), 5);
        }
        HeadServo z = new HeadServo();
        z.feed(1, 1, 1, 1, 1);
        z.image();
        z.text();
        Check.feed(z, "lose 8;");
        z.back();
        b.due("the tape stays", z.about(5), 7);
        b.due("fault(0) stays", z.fault(0), 1);
        b.due("fault(1) stays", z.fault(1), 0);
        b.due("text() of the tape that stays", z.text(), -1);
        b.due("fault(0) of it", z.fault(0), 2);
        z.back();
        b.due("the tape is empty yet", z.about(5), 0);
        b.due("fault(0) stays, of the latest", z.fault(0), 2);
    }

    private static void tapeAndFault(HeadServo x) {
        Check.read(x, "lose 9;");
        Check.feed(x, "pulls 7-speed;lose 2;");
    }

    private static void much(HeadServo x) {
        int text = Check.read(x, "pulls if clock<20 then 9 else 1 end;seek 40;lose 6;wobble 3 by 4;");
        x.by(text);
        x.played(text);
        x.day(30);
        x.lose(0);
        x.wobble(0, -7);
        x.request(-1);
        x.request(50);
        x.request(2);
        x.said(-1000, 0);
        x.said(9, 1);
        x.years(99, 40);
        for (int i = 0; i < 26; i++) x.shake(1 + i);
        x.by(-1);
        x.day(40);
    }

    private static void imageOfTexts() {
        b.of(56, "BACK: all is so again.");
        for (int texts = 0; texts <= 4; texts++) {
            HeadServo x = new HeadServo();
            for (int i = 0; i < texts; i++) Check.read(x, "pulls " + (i + 1) + ";");
            x.by(texts - 1);
            x.image();
            for (int round = 0; round < 2; round++) {
                for (int i = texts; i < 4; i++) b.due("text()", Check.read(x, "pulls 0-" + (i + 1 + round) + ";"), i);
                x.by(3);
                if (texts < 4) b.due("pulls() by the fourth", x.pulls(), -4 - round);
                b.due("a fifth", Check.read(x, ""), -1);
                x.end(0);
                x.back();
                b.due("TEXTS", x.about(0), texts);
                b.due("THE TEXT", x.about(1), texts - 1);
                b.due("pulls() by it", x.pulls(), texts);
                b.due("by of one that came behind the image", x.by(texts), false);
                b.due("played of one that came behind the image", x.played(texts), -2);
                for (int i = 0; i < texts; i++) {
                    x.by(i);
                    b.due("pulls() by TEXT " + i, x.pulls(), i + 1);
                }
            }
        }
    }

    private static void back() {
        b.of(56, "BACK to THE IMAGE (it stays): CLOCK.");
        HeadServo x = new HeadServo();
        b.due("back() anew", x.back(), 0);
        x.day(5);
        b.due("back() ahead of any image", x.back(), 0);
        x.day(7);
        x.image();
        for (int i = 0; i < 3; i++) {
            x.day(9);
            b.due("back() " + i, x.back(), 7);
            b.due("CLOCK", x.is(0), 7);
            b.due("STEPS", x.about(2), 7);
        }
        b.due("undo()", x.undo(), 6);
        b.due("back() behind undo()", x.back(), 7);
        b.due("STEPS again", x.about(2), 7);
        x.day(1);
        b.due("image() anew", x.image(), 8);
        x.undo();
        b.due("back() to the new one", x.back(), 8);
        HeadServo y = Heads.pass(Heads.still(), 9999);
        y.image();
        y.undo();
        b.due("back() to 9999", y.back(), 9999);
        b.due("day(1) then", y.day(1), -1);
        HeadServo z = Heads.steps(40);
        z.image();
        Heads.pass(z, 25);
        z.back();
        for (int i = 29; i >= 0; i--) {
            b.due("undo() behind back()", z.undo(), i);
            b.due("CLOCK behind it", z.is(0), 10 + i);
        }
        b.due("undo() of none", z.undo(), -1);
        b.due("back() once more", z.back(), 40);
        b.due("STEPS once more", z.about(2), 30);
    }

    private static void about() {
        b.of(57, "0 TEXTS, 1 THE TEXT (NONE), 2 STEPS that can be taken back, 3 REQUESTS, 4 SAID, 5 bytes of the tape. -2 for others.");
        b.row("about(what) anew", new HeadServo(), (x, v) -> x.about(v), -1, -2, 0, -1, 0, 0, 0, 0, -2);
        HeadServo x = new HeadServo();
        for (int i = 0; i < 5; i++) Check.read(x, "");
        for (int i = 0; i < 9; i++) x.said(0, 0);
        for (int i = 0; i < 7; i++) x.request(0);
        for (int i = 0; i < 31; i++) x.day(1);
        for (int i = 0; i < 16; i++) x.feed(0, 0, 0, 0, 0);
        x.by(3);
        b.row("about(what) of as much as there can be", x, (y, v) -> y.about(v), -1, -2, 4, 3, 30, 6, 8, 300, -2);
        b.outside("about", (y, v) -> y.about(v), 0, 5, -2);
    }

    private static void calls() {
        b.of(12, "An object is used for at most 512 calls after it has been made");
        HeadServo x = new HeadServo();
        for (int i = 0; i < 511; i++) x.day(19);
        b.due("the 512th call: is(0)", x.is(0), 511 * 19);
        HeadServo y = new HeadServo();
        for (int i = 0; i < 511; i++) y.seek(1 + i % 2);
        b.due("the 512th call: undo()", y.undo(), 29);
        HeadServo z = new HeadServo();
        for (int i = 0; i < 255; i++) {
            z.image();
            z.day(1);
        }
        z.day(5);
        b.due("the 512th call: back()", z.back(), 254);
        HeadServo v = new HeadServo();
        for (int i = 0; i < 511; i++) v.years(i, 40);
        b.due("the 512th call: about(2)", v.about(2), 30);
        HeadServo w = Heads.asked(0, 60, 2, 50, 4, 40, 6);
        for (int i = 0; i < 500; i++) w.till(i % 64);
        b.due("one of the last calls: order(NONE)", w.order(-1), 60);
        HeadServo t = new HeadServo();
        for (int i = 0; i < 511; i++) t.feed(i, i, i, i, i);
        b.due("the 512th call: text()", t.text(), -1);
    }
}
