/** Promises 9 to 15: what is done, what a SAMPLE does, and what is taken back. */
public final class DoneTest {
    private static final Check c = new Check();

    public static void main(String[] args) {
        seek();
        shake();
        write();
        writtenOften();
        day();
        sample();
        lostSample();
        rims();
        speedHeld();
        lawsHeld();
        settled();
        played();
        playedToTheEnd();
        years();
        undo();
        c.end();
    }

    /** A head over SECTORS that are all LOST: no draws, and ERROR stays as it is. */
    private static HeadServo still() {
        HeadServo x = new HeadServo();
        for (int s = 0; s < 8; s++) x.lose(s);
        return x;
    }

    private static void isAll(String when, HeadServo x, int... want) {
        for (int i = 0; i < want.length; i++) c.due("is(" + i + ") " + when, x.is(i), want[i]);
    }

    private static void line(HeadServo x, int i, int clock, int what, int value) {
        c.due("book(" + i + ", 0)", x.book(i, 0), clock);
        c.due("book(" + i + ", 1)", x.book(i, 1), what);
        c.due("book(" + i + ", 2)", x.book(i, 2), value);
    }

    private static void seek() {
        HeadServo x = still();
        x.day(5);
        c.due("seek(0), the TARGET", x.seek(0), false);
        c.due("seek(-1)", x.seek(-1), false);
        c.due("seek(64)", x.seek(64), false);
        c.due("SETTLED stays", x.is(6), 5);
        c.due("STEPS", x.about(2), 5);
        c.due("seek(63)", x.seek(63), true);
        isAll("behind seek(63)", x, 5, 467, 8, 0, 63, 0, 0, 0, 0);
        c.due("seek(63) again", x.seek(63), false);
        c.due("seek(0) then", x.seek(0), true);
        c.due("STEPS then", x.about(2), 7);
        c.due("lines", x.book(-1, 0), 3);
        line(x, 1, 5, 0, 63);
        line(x, 2, 5, 0, 0);
    }

    private static void shake() {
        HeadServo x = still();
        x.day(4);
        c.due("shake(0)", x.shake(0), -1);
        c.due("shake(41)", x.shake(41), -1);
        c.due("shake(-41)", x.shake(-41), -1);
        c.due("SETTLED stays", x.is(6), 4);
        c.due("shake(40)", x.shake(40), 48);
        c.due("SETTLED", x.is(6), 0);
        c.due("shake(-40)", x.shake(-40), 8);
        c.due("shake(-40) to the rim", x.shake(-40), 0);
        isAll("behind shakes", x, 4, 467, 0, 0, 0, 0, 0, 0, 0);
        c.due("lines", x.book(-1, 0), 4);
        line(x, 1, 4, 1, 40);
        line(x, 3, 4, 1, -40);
        c.due("STEPS", x.about(2), 7);
        for (int i = 0; i < 25; i++) x.shake(40);
        c.due("at 1000", x.is(2), 1000);
        c.due("shake(40) to the upper rim", x.shake(40), 1023);
        c.due("none STRUCK", x.is(8), 0);
    }

    private static void write() {
        HeadServo x = still();
        c.due("write() anew", x.write(), -1);
        x.day(2);
        c.due("write() by SETTLED 2", x.write(), -1);
        c.due("STEPS", x.about(2), 2);
        x.day(1);
        c.due("write() by SETTLED 3", x.write(), 0);
        c.due("write() again", x.write(), 0);
        isAll("behind writes", x, 3, 467, 8, 0, 0, 0, 3, 2, 0);
        c.due("STEPS then", x.about(2), 5);
        c.due("lines", x.book(-1, 0), 3);
        line(x, 0, 2, 3, 0);
        line(x, 1, 3, 2, 0);
        line(x, 2, 3, 2, 0);
        x.seek(9);
        c.due("write() behind seek", x.write(), -1);
        x.day(3);
        c.due("write() there", x.write(), 9);
    }

    private static void writtenOften() {
        HeadServo x = still();
        StringBuilder b = new StringBuilder();
        for (int i = 0; i < 24; i++) b.append("write;");
        Check.read(x, b.toString());
        x.day(3);
        for (int i = 0; i < 416; i++) x.played(0);
        c.due("WRITTEN 416 * 24 times", x.is(7), 9984);
        x.played(0);
        c.due("9999 at most", x.is(7), 9999);
        c.due("write() yet", x.write(), 0);
        c.due("9999 still", x.is(7), 9999);
    }

    private static void day() {
        HeadServo x = still();
        c.due("day(0)", x.day(0), -1);
        c.due("day(61)", x.day(61), -1);
        c.due("day(-1)", x.day(-1), -1);
        c.due("day(greatest)", x.day(Integer.MAX_VALUE), -1);
        c.due("CLOCK", x.is(0), 0);
        c.due("day(1)", x.day(1), 1);
        c.due("day(60)", x.day(60), 61);
        c.due("CLOCK then", x.is(0), 61);
        c.due("day(60), 99 at most", x.day(60), 99);
        for (int i = 0; i < 164; i++) x.day(60);
        c.due("CLOCK late", x.is(0), 9961);
        c.due("day(39) beyond 9999", x.day(39), -1);
        c.due("CLOCK as before", x.is(0), 9961);
        c.due("foretold(60, 1) stops", x.foretold(60, 1), 99);
        c.due("day(38)", x.day(38), 99);
        c.due("CLOCK 9999", x.is(0), 9999);
        c.due("day(1) at 9999", x.day(1), -1);
        c.due("foretold(1, 1) at 9999", x.foretold(1, 1), 99);
        c.due("till() beyond 9999", x.till(5), 3);
        c.due("years() at 9999", x.years(3, 40), 9999);
    }

    private static void sample() {
        HeadServo x = new HeadServo();
        // X 467: a draw of 2. READ 9, OFF 1, LEARNT 1 * 4 / 16 = 0; the curve of -1 is -1.
        c.due("day(1)", x.day(1), 1);
        isAll("behind one SAMPLE", x, 1, 3955, 7, -1, 0, 1, 1, 0, 0);
        HeadServo y = new HeadServo();
        y.wobble(0, 7);
        // READ 8 + 7 + 1 = 16, OFF 8, LEARNT 2; the curve of -8 is -3.
        c.due("day(1) of a wobble", y.day(1), 0);
        isAll("behind it", y, 1, 3955, 5, -3, 0, 8, 0, 0, 0);
        c.due("LEARNT", y.of(0, 1), 2);
        HeadServo z = new HeadServo();
        z.seek(63);
        // READ 9, OFF 9 - 1016 = -1007: ERROR is held, LEARNT is by OFF: -251 held at -99; pulls 44 held at 4.
        z.day(1);
        isAll("of a far TARGET", z, 1, 3955, 12, 4, 63, -999, 0, 0, 0);
        c.due("LEARNT held", z.of(0, 1), -99);
        HeadServo v = Check.ruled("learns 1;");
        v.seek(63);
        // -1007 / 16 is -62 (not -63, and not of -999).
        v.day(1);
        c.due("LEARNT cut", v.of(0, 1), -62);
        HeadServo w = new HeadServo();
        w.wobble(0, -7);
        w.shake(-5);
        // PLACE 3, READ 3 - 7 + 1 held at 0: OFF -8.
        w.day(1);
        c.due("READ held", w.is(5), -8);
        c.due("LEARNT", w.of(0, 1), -2);
    }

    private static void lostSample() {
        HeadServo x = new HeadServo();
        x.wobble(0, 7);
        x.day(1);
        x.lose(1);
        x.wobble(1, 7);
        // ERROR stays 8, no draw; the curve of -8 less -3 is 0.
        x.day(1);
        isAll("of a LOST SECTOR", x, 2, 3955, 2, -3, 0, 8, 0, 0, 0);
        c.due("LEARNT 0", x.of(1, 1), 0);
    }

    private static void rims() {
        HeadServo x = still();
        Check.read(x, "pulls 0-9;");
        x.by(0);
        // 8 - 9 is beyond the rim.
        x.day(1);
        isAll("at the lower rim", x, 1, 467, 0, 0, 0, 0, 1, 0, 1);
        line(x, 0, 0, 4, 0);
        x.day(2);
        isAll("struck three times, settled", x, 3, 467, 0, 0, 0, 0, 3, 0, 3);
        c.due("lines", x.book(-1, 0), 4);
        line(x, 2, 2, 4, 0);
        line(x, 3, 2, 3, 0);
        HeadServo y = still();
        Check.read(y, "pulls if clock=0 then 8 else 0 end;");
        y.by(0);
        for (int i = 0; i < 25; i++) y.shake(40);
        y.shake(7);
        c.due("PLACE 1015", y.is(2), 1015);
        y.day(1);
        isAll("just at the upper rim", y, 1, 467, 1023, 8, 0, 0, 0, 0, 0);
        y.day(1);
        isAll("beyond it", y, 2, 467, 1023, 0, 0, 0, 1, 0, 1);
    }

    private static void speedHeld() {
        HeadServo x = still();
        Check.read(x, "pulls 9;");
        x.by(0);
        // 9, 18, .. 63, 64: 8 + 252 + 64.
        x.day(8);
        c.due("SPEED 64 at most", x.is(3), 64);
        c.due("PLACE", x.is(2), 324);
        HeadServo y = still();
        Check.read(y, "pulls -9;");
        y.by(0);
        for (int i = 0; i < 25; i++) y.shake(40);
        y.day(8);
        c.due("SPEED -64 at least", y.is(3), -64);
        c.due("PLACE then", y.is(2), 1008 - 316);
    }

    private static void lawsHeld() {
        HeadServo x = Check.ruled("learns 99;");
        x.wobble(0, 7);
        // 16 at most: LEARNT is all of OFF 8.
        x.day(1);
        c.due("learns held at 16", x.of(0, 1), 8);
        HeadServo y = Check.ruled("learns 0-3;");
        y.wobble(0, 7);
        y.day(1);
        c.due("learns held at 0", y.of(0, 1), 0);
        HeadServo z = Check.ruled("learns if off=error and speed=0 and clock=0 and target=0 then 2 else 16 end;");
        z.wobble(0, 7);
        z.day(1);
        c.due("ERROR is new in learns", z.of(0, 1), 1);
        HeadServo v = Check.ruled("learns if off < error then 1 else 0 end;pulls settled;");
        v.seek(63);
        v.day(1);
        c.due("off is not held", v.of(0, 1), -62);
        c.due("SETTLED as it was in pulls", v.is(3), 0);
        HeadServo w = Check.ruled("pulls learnt 0;");
        w.wobble(0, 7);
        w.day(1);
        c.due("LEARNT as it is then", w.is(3), 2);
    }

    private static void settled() {
        HeadServo x = still();
        Check.read(x, "pulls if clock=0 then 1 else if clock=4 then 1 else 0 end end;");
        x.by(0);
        c.due("SPEED 1", x.day(4), 4);
        c.due("SPEED 2", x.day(1), 0);
        c.due("SPEED 2 yet", x.day(1), 0);
        HeadServo y = still();
        Check.read(y, "pulls 0;");
        y.by(0);
        y.lose(0);
        y.wobble(0, 2);
        c.due("ERROR 3", y.day(8), 8);
        c.due("it is 3", y.is(5), 3);
        y.undo();
        HeadServo z = still();
        Check.read(z, "pulls 0;");
        z.by(0);
        z.lose(0);
        z.wobble(0, 3);
        c.due("ERROR 4", z.day(8), 0);
        c.due("it is 4", z.is(5), 4);
        z.lose(0);
        z.wobble(0, -4);
        z.lose(0);
        // X 3955: a draw of 1; OFF -4 less LEARNT 1.
        c.due("ERROR -5", z.day(8), 0);
        c.due("it is -5", z.is(5), -5);
    }

    private static void played() {
        HeadServo x = still();
        c.due("played(0) of none", x.played(0), -2);
        Check.read(x, "pulls 0;seek 5;day 3;write;learns 1;write;seek 5;shake 3;");
        c.due("played(1)", x.played(1), -2);
        c.due("played(-1)", x.played(-1), -2);
        c.due("played(0)", x.played(0), 6);
        isAll("what was done stays", x, 3, 467, 8, 0, 5, 0, 3, 2, 0);
        c.due("STEPS by hand", x.about(2), 6);
        c.due("played(0) again", x.played(0), 1);
        x.seek(0);
        c.due("undo()", x.undo(), 6);
        Check.read(x, "wobble 3 by 4;lose 3;shake 2;");
        c.due("played(1) then", x.played(1), -1);
        c.due("of(3, 0)", x.of(3, 0), 4);
        c.due("lost()", x.lost(), 247);
        c.due("PLACE", x.is(2), 10);
        Check.read(x, "");
        c.due("played() of no CLAUSE", x.played(2), -1);
        HeadServo y = new HeadServo();
        Check.read(y, "write;");
        c.due("the gate is shut", y.played(0), 0);
        HeadServo z = Check.ruled("pulls 5;");
        Check.read(z, "pulls 1;day 1;");
        z.played(1);
        c.due("THE TEXT rules, not the one played", z.is(3), 5);
    }

    private static void playedToTheEnd() {
        HeadServo x = still();
        Check.read(x, "day 60;day 60;day 60;day 60;day 60;day 60;day 60;day 60;day 60;day 60;");
        Check.read(x, "day 60;seek 7;");
        for (int i = 0; i < 16; i++) c.due("played(0) " + i, x.played(0), -1);
        c.due("CLOCK", x.is(0), 9600);
        c.due("those that can pass do", x.played(0), 6);
        c.due("CLOCK 9999", x.is(0), 9999);
        c.due("played(1)", x.played(1), 0);
        c.due("TARGET", x.is(4), 0);
        x.undo();
        x.undo();
        c.due("two can pass yet", x.played(1), 0);
        c.due("CLOCK 9999 again", x.is(0), 9999);
    }

    private static void years() {
        HeadServo x = still();
        c.due("years(-1, 1)", x.years(-1, 1), -1);
        c.due("years(10000, 1)", x.years(10000, 1), -1);
        c.due("years(0, 0)", x.years(0, 0), -1);
        c.due("years(0, 41)", x.years(0, 41), -1);
        isAll("as before", x, 0, 467, 8, 0, 0, 0, 0, 0, 0);
        // x 467 is 5 by 6: a SAMPLE.
        c.due("years(0, 1)", x.years(0, 1), 1);
        isAll("a SAMPLE", x, 1, 3955, 8, 0, 0, 0, 1, 0, 0);
        HeadServo s = still();
        // SEED 10: x 487 is 1 by 6, 3 by 4, 3 by 11: SHAKEN by -2.
        c.due("years(10, 1)", s.years(10, 1), 0);
        c.due("PLACE", s.is(2), 6);
        line(s, 0, 0, 1, -2);
        c.due("X", s.is(1), (487 * 739 + 601) % 31069);
        // SEED 1: x 469 is 1 by 6, 1 by 4: nothing.
        HeadServo n = still();
        c.due("years(1, 1)", n.years(1, 1), 0);
        c.due("no lines", n.book(-1, 0), 0);
        c.due("one STEP even so", n.about(2), 1);
        c.due("X then", n.is(1), (469 * 739 + 601) % 31069);
        c.due("undo() of years", n.undo(), 0);
        c.due("X as ahead", n.is(1), 467);
        c.due("many are one STEP", n.years(77, 40) >= 0, true);
        c.due("about(2)", n.about(2), 1);
        c.due("undo() of many", n.undo(), 0);
        isAll("as ahead of it", n, 0, 467, 8, 0, 0, 0, 0, 0, 0);
        c.due("lines as ahead of it", n.book(-1, 0), 0);
        soughtByYears();
    }

    /** Looks for SEEDS whose second draw is of each kind, and tells what is due from the draws alone. */
    private static void soughtByYears() {
        int sought = 0;
        int shakenByNone = 0;
        int written = 0;
        for (int seed = 0; seed < 10000; seed++) {
            int first = seed * 2 + 467;
            int second = (first * 739 + 601) % 31069;
            boolean quiet = first % 6 == 1 && first % 4 == 1;
            if (!quiet) continue;
            if (second % 6 == 0 && sought < 40) {
                HeadServo x = still();
                x.years(seed, 2);
                int track = second / 6 % 64;
                boolean can = second % 4 == 2 && track != 0;
                c.due("TARGET by " + seed, x.is(4), can ? track : 0);
                c.due("lines by " + seed, x.book(-1, 0), can ? 1 : 0);
                sought++;
            }
            if (second % 6 == 1 && second % 4 == 3 && second % 11 == 5 && shakenByNone < 5) {
                HeadServo x = still();
                x.day(2);
                x.years(seed, 2);
                c.due("SETTLED stays, by " + seed, x.is(6), 2);
                c.due("no lines by " + seed, x.book(-1, 0), 0);
                shakenByNone++;
            }
            if (second % 6 == 2 && written < 5) {
                HeadServo x = still();
                x.years(seed, 2);
                c.due("the gate is shut, by " + seed, x.is(7), 0);
                x.day(3);
                x.years(seed, 2);
                c.due("WRITTEN by " + seed, x.is(7), 1);
                written++;
            }
        }
        c.due("all kinds were there", sought == 40 && shakenByNone == 5 && written == 5, true);
    }

    private static void undo() {
        HeadServo x = new HeadServo();
        c.due("undo() of none", x.undo(), -1);
        x.wobble(0, 7);
        x.day(1);
        x.shake(3);
        x.seek(2);
        c.due("about(2)", x.about(2), 3);
        c.due("undo() of seek", x.undo(), 2);
        isAll("ahead of seek", x, 1, 3955, 8, -3, 0, 8, 0, 0, 0);
        c.due("undo() of shake", x.undo(), 1);
        c.due("PLACE", x.is(2), 5);
        c.due("lines", x.book(-1, 0), 0);
        x.wobble(1, 3);
        x.lose(2);
        c.due("undo() of the SAMPLE", x.undo(), 0);
        isAll("anew", x, 0, 467, 8, 0, 0, 0, 0, 0, 0);
        c.due("LEARNT", x.of(0, 1), 0);
        c.due("WOBBLE stays", x.of(1, 0), 3);
        c.due("LOST stays", x.lost(), 4);
        c.due("undo() then", x.undo(), -1);
        HeadServo y = still();
        y.day(40);
        c.due("30 at most", y.about(2), 30);
        for (int i = 29; i >= 0; i--) {
            c.due("undo()", y.undo(), i);
            c.due("CLOCK", y.is(0), 10 + i);
        }
        c.due("undo() of the 31st", y.undo(), -1);
        c.due("CLOCK 10", y.is(0), 10);
        HeadServo z = still();
        for (int i = 0; i < 26; i++) z.shake(1 + i);
        c.due("lines are 25 at most", z.book(-1, 0), 25);
        c.due("the eldest is gone", z.book(0, 2), 2);
        z.undo();
        c.due("25 yet", z.book(-1, 0), 25);
        c.due("the eldest is there again", z.book(0, 2), 1);
        c.due("the latest", z.book(24, 2), 25);
    }
}
