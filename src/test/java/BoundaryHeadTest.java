/** Boundaries of the head, the sectors, a SAMPLE and the STEPS (I), and of promises 1 to 3, 9 to 12 and 15 to 19. */
public final class BoundaryHeadTest {
    private static final Boundary b = new Boundary();

    public static void main(String[] args) {
        anew();
        speedLimits();
        errorLimits();
        countLimits();
        learntLimits();
        clockLimits();
        bookLimits();
        sectorOfSample();
        draw();
        read();
        off();
        learnt();
        lostSample();
        speed();
        place();
        settled();
        settledLine();
        sought();
        shaken();
        written();
        lines();
        steps();
        stepsTakenBack();
        wobble();
        lose();
        seek();
        shake();
        write();
        day();
        undo();
        of();
        is();
        pulls();
        book();
        b.end();
    }

    private static void anew() {
        b.of(1, "The head at rest over track 0; THE IMAGE is this.");
        b.row("is(what)", new HeadServo(), (x, v) -> x.is(v), 0, 0, 467, 8, 0, 0, 0, 0, 0, 0);
        b.row("about(what)", new HeadServo(), (x, v) -> x.about(v), 0, 0, -1, 0, 0, 0, 0);
        b.alike("back() ahead of any image", x -> { }, x -> {
            x.seek(5);
            x.wobble(0, 7);
            x.lose(3);
            x.day(20);
            x.shake(3);
            x.request(3);
            x.said(3, 3);
            x.back();
        });
        b.of(17, "THE HEAD: PLACE (at first 8), SPEED -64 .. 64 (at first 0), TARGET, a TRACK (at first 0), ERROR -999 .. 999 (at first 0), SETTLED 0 .. 99 (at first 0), how often it was WRITTEN, how often it STRUCK (at first 0; 9999 at most).");
        b.row("is(what)", new HeadServo(), (x, v) -> x.is(v), 2, 8, 0, 0, 0, 0, 0, 0);
        b.of(16, "SECTORS 0 .. 7: WOBBLE (told; at first 0), LOST or not (told; at first not), LEARNT -99 .. 99 (at first 0).");
        for (int what = 0; what < 3; what++) {
            int w = what;
            b.row("of(sector, " + w + ")", new HeadServo(), (x, v) -> x.of(v, w), -1, -100, 0, 0, 0, 0, 0, 0, 0, 0, -100);
        }
        b.of(17, "CLOCK 0 .. 9999 (at first 0). X: at first 467. BOOK (the latest 25).");
        b.row("is(what)", new HeadServo(), (x, v) -> x.is(v), 0, 0, 467);
        b.due("book(-1, 0)", new HeadServo().book(-1, 0), 0);
    }

    private static void speedLimits() {
        b.of(17, "SPEED -64 .. 64 (at first 0)");
        int[][] pulled = {{0, 63}, {1, 64}, {2, 64}, {9, 64}};
        for (int[] w : pulled) {
            // 9 + 18 + .. + 63 is 252.
            HeadServo x = Heads.still("pulls if clock<7 then 9 else " + w[0] + " end;");
            x.day(7);
            b.due("SPEED behind seven pulls of 9", x.is(3), 63);
            x.day(1);
            b.due("SPEED by one of " + w[0], x.is(3), w[1]);
            b.due("PLACE by that SPEED", x.is(2), 8 + 252 + w[1]);
            HeadServo y = Heads.shaken(Heads.still("pulls if clock<7 then 0-9 else 0-" + w[0] + " end;"), 900);
            y.day(7);
            b.due("SPEED behind seven pulls of -9", y.is(3), -63);
            y.day(1);
            b.due("SPEED by one of -" + w[0], y.is(3), -w[1]);
            b.due("PLACE by that SPEED, below", y.is(2), 900 - 252 - w[1]);
        }
    }

    private static void errorLimits() {
        b.of(17, "ERROR -999 .. 999 (at first 0)");
        // The first draw reads one PLACE more; the middle of TRACK 63 is 1016.
        int[][] below = {{17, -998}, {16, -999}, {15, -999}, {0, -999}};
        for (int[] w : below) {
            HeadServo x = Heads.at(w[0]);
            x.seek(63);
            x.day(1);
            b.due("ERROR of TRACK 63 at PLACE " + w[0], x.is(5), w[1]);
        }
        int[][] above = {{1005, 998}, {1006, 999}, {1007, 999}, {1022, 999}};
        for (int[] w : above) {
            HeadServo x = Heads.at(w[0]);
            x.day(1);
            b.due("ERROR of TRACK 0 at PLACE " + w[0], x.is(5), w[1]);
        }
    }

    private static void countLimits() {
        b.of(12, "SETTLED is one more (99 at most)");
        HeadServo x = Heads.still();
        b.due("day(60)", x.day(60), 60);
        b.due("day(38)", x.day(38), 98);
        b.due("day(1) to 99", x.day(1), 99);
        b.due("day(1) at 99", x.day(1), 99);
        b.due("day(60) at 99", x.day(60), 99);
        b.of(17, "how often it was WRITTEN, how often it STRUCK (at first 0; 9999 at most)");
        HeadServo y = Heads.still();
        StringBuilder all = new StringBuilder();
        for (int i = 0; i < 24; i++) all.append("write;");
        Check.read(y, all.toString());
        y.day(3);
        for (int i = 0; i < 416; i++) y.played(0);
        for (int i = 9985; i <= 9998; i++) y.write();
        b.due("WRITTEN 9998 times", y.is(7), 9998);
        b.due("write()", y.write(), 0);
        b.due("WRITTEN 9999 times", y.is(7), 9999);
        b.due("write() at 9999", y.write(), 0);
        b.due("WRITTEN 9999 times yet", y.is(7), 9999);
        b.due("played(0) at 9999", y.played(0), -1);
        b.due("WRITTEN 9999 times still", y.is(7), 9999);
        HeadServo z = Heads.still("pulls 0-9;");
        Heads.pass(z, 9998);
        b.due("STRUCK 9998 times", z.is(8), 9998);
        z.day(1);
        b.due("STRUCK 9999 times", z.is(8), 9999);
        b.due("none can pass then", z.day(1), -1);
        b.due("STRUCK 9999 times yet", z.is(8), 9999);
    }

    private static void learntLimits() {
        b.of(16, "LEARNT -99 .. 99 (at first 0)");
        int[][] above = {{105, 98}, {106, 99}, {107, 99}, {1000, 99}};
        for (int[] w : above) {
            HeadServo x = Heads.at(w[0]);
            Heads.rule(x, "pulls 0;learns 16;");
            x.day(1);
            b.due("LEARNT at PLACE " + w[0], x.of(0, 1), w[1]);
        }
        // The middle of TRACK 10 is 168.
        int[][] below = {{69, -98}, {68, -99}, {67, -99}, {0, -99}};
        for (int[] w : below) {
            HeadServo x = Heads.at(w[0]);
            Heads.rule(x, "pulls 0;learns 16;");
            x.seek(10);
            x.day(1);
            b.due("LEARNT at PLACE " + w[0] + " of TRACK 10", x.of(0, 1), w[1]);
        }
        HeadServo x = Heads.lose(Heads.at(300), 1, 2, 3, 4, 5, 6, 7);
        Heads.rule(x, "pulls 0;learns 16;");
        x.day(9);
        b.due("OFF less LEARNT 99", x.is(5), 300 - 8 - 99);
        b.due("LEARNT that was 99", x.of(0, 1), 99);
    }

    private static void clockLimits() {
        b.of(12, "CLOCK is one more (at 9999 none can pass).");
        HeadServo x = Heads.pass(Heads.still(), 9997);
        b.due("day(1)", x.day(1), 99);
        b.due("CLOCK", x.is(0), 9998);
        b.due("day(1) once more", x.day(1), 99);
        b.due("CLOCK then", x.is(0), 9999);
        b.due("day(1) at 9999", x.day(1), -1);
        b.due("CLOCK still", x.is(0), 9999);
        b.refused("day(1) at 9999", y -> Heads.pass(Heads.lose(y, 0, 3), 9999), y -> y.day(1), -1);
    }

    private static void bookLimits() {
        b.of(19, "BOOK (the latest 25)");
        for (int n = 24; n <= 27; n++) {
            HeadServo x = new HeadServo();
            for (int i = 1; i <= n; i++) x.shake(i);
            int kept = Math.min(n, 25);
            b.due("book(-1, 0) of " + n, x.book(-1, 0), kept);
            b.due("the eldest of " + n, x.book(0, 2), n - kept + 1);
            b.due("the latest of " + n, x.book(kept - 1, 2), n);
            b.due("one behind the latest of " + n, x.book(kept, 2), -100);
        }
    }

    private static void sectorOfSample() {
        b.of(12, "A SAMPLE, of SECTOR CLOCK mod 8");
        HeadServo x = Heads.lose(new HeadServo(), 0, 1, 2, 3, 4, 5, 6);
        x.wobble(7, 7);
        x.day(7);
        b.due("X at CLOCK 7", x.is(1), 467);
        b.due("LEARNT of 7 at CLOCK 7", x.of(7, 1), 0);
        x.day(1);
        b.due("X at CLOCK 8", x.is(1), 3955);
        b.due("LEARNT of 7 at CLOCK 8", x.of(7, 1), 2);
        HeadServo y = Heads.lose(new HeadServo(), 1, 2, 3, 4, 5, 6, 7);
        Heads.rule(y, "pulls 0;");
        y.wobble(0, 7);
        y.day(1);
        b.due("X behind SECTOR 0", y.is(1), 3955);
        y.day(7);
        b.due("X at CLOCK 8 yet", y.is(1), 3955);
        y.day(1);
        b.due("X behind SECTOR 0 again", y.is(1), 2860);
        HeadServo z = Heads.pass(Heads.still(), 9991);
        z.lose(7);
        z.day(1);
        b.due("X behind CLOCK 9991, of SECTOR 7", z.is(1), 3955);
        z.day(7);
        b.due("X behind CLOCK 9998, of SECTOR 6", z.is(1), 3955);
    }

    private static void draw() {
        b.of(17, "a draw by 3 (X mod 3, X becoming (X * 739 + 601) mod 31069 behind it)");
        HeadServo x = new HeadServo();
        Heads.rule(x, "pulls 0;learns 0;");
        // 467, 3955, 2860, 1449, 15066 are 2, 1, 1, 0, 0 by 3.
        int[] behind = {3955, 2860, 1449, 15066};
        int[] error = {1, 0, 0, -1};
        for (int i = 0; i < 4; i++) {
            x.day(1);
            b.due("X behind SAMPLE " + i, x.is(1), behind[i]);
            b.due("ERROR behind SAMPLE " + i, x.is(5), error[i]);
        }
        // SEEDS and numbers of draws that lead to X 0, 41, 42 and 31068: around 31069 or just not.
        int[][] around = {{7056, 5, 0, 601}, {9667, 1, 41, 30900}, {4316, 4, 42, 570}, {7691, 1, 31068, 30931}};
        for (int[] w : around) {
            HeadServo y = Heads.still();
            y.years(w[0], w[1]);
            b.due("X by YEARS", y.is(1), w[2]);
            for (int s = 0; s < 8; s++) y.lose(s);
            y.day(1);
            b.due("X behind " + w[2], y.is(1), w[3]);
        }
    }

    private static void read() {
        b.of(12, "what is READ is PLACE and WOBBLE and the draw less 1 (held 0 .. 1023)");
        int[][] below = {{7, -7}, {6, -8}, {5, -8}, {0, -8}};
        for (int[] w : below) {
            HeadServo x = Heads.at(w[0]);
            x.wobble(0, -7);
            x.day(1);
            b.due("ERROR at PLACE " + w[0], x.is(5), w[1]);
        }
        int[][] above = {{1014, 6}, {1015, 7}, {1016, 7}, {1023, 7}};
        for (int[] w : above) {
            HeadServo x = Heads.at(w[0]);
            x.wobble(0, 7);
            x.seek(63);
            x.day(1);
            b.due("ERROR of TRACK 63 at PLACE " + w[0], x.is(5), w[1]);
        }
        HeadServo x = Heads.at(1023);
        x.seek(63);
        x.day(1);
        b.due("ERROR at PLACE 1023 without a WOBBLE", x.is(5), 7);
    }

    private static void off() {
        b.of(12, "OFF is READ less the middle of TARGET less LEARNT of that SECTOR");
        HeadServo x = Heads.lose(new HeadServo(), 2, 3, 4, 5, 6, 7);
        Heads.rule(x, "pulls 0;learns 16;");
        x.wobble(0, 7);
        x.day(1);
        b.due("ERROR of SECTOR 0", x.is(5), 8);
        b.due("LEARNT of SECTOR 0", x.of(0, 1), 8);
        x.day(1);
        b.due("ERROR of SECTOR 1, of which nothing is LEARNT", x.is(5), 0);
        x.day(7);
        // X 2860: a draw of 1.
        b.due("ERROR of SECTOR 0 again", x.is(5), 15 - 8 - 8);
        b.due("LEARNT of SECTOR 0 then", x.of(0, 1), 7);
        b.of(51, "TRACK t is 16 t .. 16 t + 15, its middle 16 t + 8");
        b.row("far(track)", Heads.at(24), (y, v) -> y.far(v), 0, 16, 0, -16);
        b.due("reads(15, false)", new HeadServo().reads(15, false), 0);
        b.due("reads(16, false)", new HeadServo().reads(16, false), 1);
        HeadServo low = Heads.at(16);
        HeadServo high = Heads.at(31);
        HeadServo next = Heads.at(32);
        for (HeadServo y : new HeadServo[] {low, high, next}) y.request(1);
        b.due("order(NONE) of TRACK 1 at PLACE 16", low.order(-1), 0);
        b.due("order(NONE) of TRACK 1 at PLACE 31", high.order(-1), 0);
        b.due("order(NONE) of TRACK 1 at PLACE 32", next.order(-1), 1);
        HeadServo last = Heads.at(15);
        last.request(1);
        b.due("order(NONE) of TRACK 1 at PLACE 15", last.order(-1), 1);
        HeadServo y = Heads.at(1000);
        y.seek(63);
        y.day(1);
        b.due("ERROR of TRACK 63 at PLACE 1000", y.is(5), 1001 - 1016);
    }

    private static void learntBy(String law, int track, int[][] rows) {
        for (int[] w : rows) {
            HeadServo x = Heads.at(w[0]);
            Heads.rule(x, law);
            x.seek(track);
            x.day(1);
            b.due("LEARNT of TRACK " + track + " at PLACE " + w[0] + " by " + law, x.of(0, 1), w[1]);
        }
    }

    private static void learnt() {
        b.of(12, "LEARNT is more by OFF (not held) times learns by 16 (cut; as all is then, ERROR, too; held)");
        // OFF 15, 16, 17, 31, 32, then below: the first draw reads one PLACE more.
        learntBy("pulls 0;learns 1;", 0, new int[][] {{22, 0}, {23, 1}, {24, 1}, {38, 1}, {39, 2}});
        learntBy("pulls 0;learns 1;", 2, new int[][] {{24, 0}, {23, -1}, {22, -1}, {8, -1}, {7, -2}});
        // OFF 1007, 1008 and below: by what is held (999) it would be 62.
        learntBy("pulls 0;learns 1;", 0, new int[][] {{1014, 62}, {1015, 63}});
        learntBy("pulls 0;learns 1;", 63, new int[][] {{8, -62}, {7, -63}});
        learntBy("pulls 0;learns if off<0-999 then 1 else 0 end;", 63, new int[][] {{17, 0}, {16, 0}, {15, -62}});
        learntBy("pulls 0;learns if error=0-999 and off#error then 1 else 0 end;", 63, new int[][] {{17, 0}, {16, 0}, {15, -62}});
        HeadServo x = Heads.lose(Heads.at(27), 1, 2, 3, 4, 5, 6, 7);
        Heads.rule(x, "pulls 1;learns if learnt 0=0 and speed=0 and clock=0 and sector=0 and error=20 then 16 else 0 end;");
        x.day(1);
        b.due("LEARNT by all as it is then", x.of(0, 1), 20);
        x.day(8);
        b.due("LEARNT by SPEED and CLOCK of another SAMPLE", x.of(0, 1), 20);
    }

    private static void lostSample() {
        b.of(12, "(LOST: ERROR stays.)");
        HeadServo x = Heads.at(20);
        Heads.rule(x, "pulls 0;learns 4;");
        x.day(1);
        b.due("ERROR", x.is(5), 13);
        x.lose(1);
        x.wobble(1, 7);
        x.day(1);
        b.due("ERROR of a LOST SECTOR", x.is(5), 13);
        b.due("X of a LOST SECTOR", x.is(1), 3955);
        b.due("LEARNT of a LOST SECTOR", x.of(1, 1), 0);
        b.due("CLOCK of a LOST SECTOR", x.is(0), 2);
        x.day(1);
        b.due("ERROR of the next one", x.is(5), 12);
        b.due("X of the next one", x.is(1), 2860);
        b.due("LEARNT of the next one", x.of(2, 1), 3);
    }

    private static void speed() {
        b.of(12, "Lost or not: SPEED is more by pulls (as all is then; held).");
        HeadServo x = Heads.at(12);
        Heads.rule(x, "pulls error;learns 0;");
        x.day(1);
        b.due("SPEED by the ERROR that is new", x.is(3), 5);
        x.lose(1);
        x.day(1);
        b.due("SPEED in a LOST SECTOR, by the ERROR that stays", x.is(3), 10);
        HeadServo y = Heads.at(10);
        Heads.rule(y, "pulls learnt 0;learns 16;");
        y.day(1);
        b.due("SPEED by the LEARNT that is new", y.is(3), 3);
        HeadServo z = Heads.still("pulls settled;");
        int[] speeds = {0, 1, 3, 3};
        for (int i = 0; i < 4; i++) {
            z.day(1);
            b.due("SPEED by the SETTLED that was, " + i, z.is(3), speeds[i]);
        }
        HeadServo v = Heads.still("pulls clock;");
        v.day(3);
        b.due("SPEED by CLOCK 0, 1, 2", v.is(3), 3);
        HeadServo w = Heads.still("pulls speed+1;");
        w.day(3);
        b.due("SPEED 0, 1, 3, 7", w.is(3), 7);
    }

    private static void place() {
        b.of(12, "PLACE is more by SPEED; would it be below 0 or above 1023, it is there (at the rim), SPEED 0, and it has STRUCK.");
        // PLACE, SPEED, STRUCK behind a pull.
        int[][] below = {{7, 1, -7, 0}, {8, 0, -8, 0}, {9, 0, 0, 1}};
        for (int[] w : below) {
            HeadServo x = Heads.still("pulls 0-" + w[0] + ";");
            x.day(1);
            for (int i = 0; i < 3; i++) b.due("is(" + (i == 2 ? 8 : i + 2) + ") by -" + w[0], x.is(i == 2 ? 8 : i + 2), w[i + 1]);
        }
        int[][] above = {{7, 1022, 7, 0}, {8, 1023, 8, 0}, {9, 1023, 0, 1}};
        for (int[] w : above) {
            HeadServo x = Heads.shaken(Heads.still("pulls " + w[0] + ";"), 1015);
            x.day(1);
            for (int i = 0; i < 3; i++) b.due("is(" + (i == 2 ? 8 : i + 2) + ") by " + w[0], x.is(i == 2 ? 8 : i + 2), w[i + 1]);
        }
        HeadServo x = Heads.shaken(Heads.still("pulls 1;"), 1023);
        x.day(5);
        b.due("STRUCK at each SAMPLE", x.is(8), 5);
        b.due("PLACE then", x.is(2), 1023);
        HeadServo y = Heads.shaken(Heads.still("pulls 0-1;"), 0);
        y.day(5);
        b.due("STRUCK at each SAMPLE below", y.is(8), 5);
        b.due("PLACE below", y.is(2), 0);
    }

    private static void settled() {
        b.of(12, "SETTLED is one more (99 at most), if ERROR is -3 .. 3 and SPEED -1 .. 1, else 0");
        int[][] errors = {{3, 0}, {4, 1}, {5, 1}, {9, 1}, {10, 1}, {11, 0}};
        for (int[] w : errors) {
            HeadServo x = Heads.at(w[0]);
            Heads.rule(x, "pulls 0;");
            b.due("SETTLED by ERROR " + (w[0] - 7), x.day(1), w[1]);
            b.due("ERROR", x.is(5), w[0] - 7);
        }
        int[] settled = {0, 1, 1, 1, 0};
        for (int pull = -2; pull <= 2; pull++) {
            HeadServo x = Heads.still("pulls if clock=2 then " + pull + " else 0 end;");
            x.day(2);
            b.due("SETTLED by SPEED " + pull, x.day(1), settled[pull + 2] * 3);
            b.due("SPEED", x.is(3), pull);
        }
        HeadServo x = Heads.still("pulls 0-9;");
        b.due("SETTLED by the SPEED of a rim", x.day(1), 1);
        b.due("SETTLED by the SPEED of a rim again", x.day(1), 2);
        HeadServo y = Heads.still("pulls if clock=110 then 2 else 0 end;");
        Heads.pass(y, 110);
        b.due("SETTLED that was 99", y.day(1), 0);
    }

    private static void settledLine() {
        b.of(19, "is it 3 then, it is written down");
        HeadServo x = Heads.still();
        x.seek(7);
        x.day(2);
        b.due("lines by SETTLED 2", x.ledger(3), 0);
        x.day(1);
        b.due("lines by SETTLED 3", x.ledger(3), 1);
        b.due("its CLOCK", x.book(1, 0), 2);
        b.due("its kind", x.book(1, 1), 3);
        b.due("its TRACK", x.book(1, 2), 7);
        x.day(1);
        b.due("lines by SETTLED 4", x.ledger(3), 1);
        x.day(60);
        x.day(60);
        b.due("lines by SETTLED 99", x.ledger(3), 1);
        x.shake(1);
        x.day(2);
        b.due("lines by SETTLED 2 again", x.ledger(3), 1);
        x.day(1);
        b.due("lines by SETTLED 3 again", x.ledger(3), 2);
    }

    private static void sought() {
        b.of(9, "SOUGHT: TARGET is another TRACK, SETTLED 0.");
        HeadServo x = Heads.still("pulls if clock=0 then 1 else 0 end;");
        x.day(5);
        b.due("seek(0), the TARGET", x.seek(0), false);
        b.due("SETTLED", x.is(6), 5);
        b.due("seek(1)", x.seek(1), true);
        b.row("is(what) behind it", x, (y, v) -> y.is(v), 0, 5, 467, 13, 1, 1, 0, 0, 0, 0);
    }

    private static void shaken() {
        b.of(10, "SHAKEN: PLACE is more by so much (held 0 .. 1023), SETTLED 0.");
        int[][] below = {{39, 0}, {40, 0}, {41, 1}, {0, 0}};
        for (int[] w : below) b.due("shake(-40) at " + w[0], Heads.at(w[0]).shake(-40), w[1]);
        int[][] above = {{982, 1022}, {983, 1023}, {984, 1023}, {1023, 1023}};
        for (int[] w : above) b.due("shake(40) at " + w[0], Heads.at(w[0]).shake(40), w[1]);
        b.due("shake(-1) at 1", Heads.at(1).shake(-1), 0);
        b.due("shake(-1) at 0", Heads.at(0).shake(-1), 0);
        b.due("shake(1) at 1022", Heads.at(1022).shake(1), 1023);
        b.due("shake(1) at 1023", Heads.at(1023).shake(1), 1023);
        HeadServo x = Heads.still("pulls if clock=0 then 1 else 0 end;");
        x.day(5);
        x.shake(-40);
        b.row("is(what) behind it", x, (y, v) -> y.is(v), 0, 5, 467, 0, 1, 0, 0, 0, 0, 0);
        b.due("by how much stands in BOOK, not how far", x.book(1, 2), -40);
    }

    private static void written() {
        b.of(11, "WRITTEN: if SETTLED is 3 or more (the gate is open): TARGET's TRACK.");
        int[] want = {-1, -1, -1, 9, 9};
        for (int settled = 0; settled <= 4; settled++) {
            HeadServo x = Heads.still();
            x.seek(9);
            if (settled > 0) x.day(settled);
            b.due("write() by SETTLED " + settled, x.write(), want[settled]);
            b.due("WRITTEN by SETTLED " + settled, x.is(7), settled < 3 ? 0 : 1);
            b.due("SETTLED then", x.is(6), settled);
        }
        HeadServo x = Heads.pass(Heads.still(), 120);
        b.due("write() by SETTLED 99", x.write(), 0);
    }

    private static void line(HeadServo x, int i, int clock, int what, int value) {
        b.due("CLOCK of line " + i, x.book(i, 0), clock);
        b.due("kind of line " + i, x.book(i, 1), what);
        b.due("value of line " + i, x.book(i, 2), value);
    }

    private static void lines() {
        b.of(19, "Sought, shaken, written, settled (TARGET), struck (PLACE) are written down.");
        HeadServo x = Heads.shaken(Heads.still("pulls if clock=5 then 9 else 0 end;"), 1023);
        x.seek(63);
        x.day(4);
        x.write();
        x.shake(40);
        x.day(2);
        line(x, 20, 0, 0, 63);
        line(x, 21, 2, 3, 63);
        line(x, 22, 4, 2, 63);
        line(x, 23, 4, 1, 40);
        line(x, 24, 5, 4, 1023);
        HeadServo y = Heads.still("pulls if clock=5 then 0-9 else 0 end;");
        y.seek(63);
        y.seek(0);
        y.shake(-1);
        y.day(7);
        b.due("lines", y.book(-1, 0), 5);
        line(y, 0, 0, 0, 63);
        line(y, 1, 0, 0, 0);
        line(y, 2, 0, 1, -1);
        line(y, 3, 2, 3, 0);
        line(y, 4, 5, 4, 0);
        HeadServo z = Heads.still("pulls if clock=2 then 0-9 else 0 end;");
        z.day(3);
        b.due("struck and settled in one SAMPLE", z.book(-1, 0), 2);
        line(z, 0, 2, 4, 0);
        line(z, 1, 2, 3, 0);
    }

    private static void steps() {
        b.of(57, "STEPS: SOUGHT, SHAKEN, WRITTEN, a SAMPLE (each), YEARS (see V): the latest 30 can be taken back");
        HeadServo x = Heads.still();
        x.seek(1);
        b.due("STEPS behind seek", x.about(2), 1);
        x.shake(1);
        b.due("STEPS behind shake", x.about(2), 2);
        x.day(3);
        b.due("STEPS behind day(3)", x.about(2), 5);
        x.write();
        b.due("STEPS behind write", x.about(2), 6);
        x.years(5, 40);
        b.due("STEPS behind years", x.about(2), 7);
        x.wobble(1, 1);
        x.lose(1);
        x.request(1);
        x.said(1, 1);
        x.image();
        x.foretold(9, 0);
        x.till(9);
        b.due("STEPS behind what is none", x.about(2), 7);
        x.seek(1);
        x.shake(0);
        x.day(61);
        x.years(-1, 1);
        b.due("STEPS behind what was refused", x.about(2), x.is(4) == 1 ? 7 : 8);
        for (int n = 29; n <= 32; n++) {
            HeadServo y = Heads.steps(n);
            b.due("STEPS of " + n, y.about(2), Math.min(n, 30));
            for (int i = Math.min(n, 30) - 1; i >= 0; i--) b.due("undo() of " + n, y.undo(), i);
            b.due("one undo() more of " + n, y.undo(), -1);
            b.due("CLOCK of " + n, y.is(0), Math.max(n - 30, 0));
        }
        HeadServo z = Heads.steps(31);
        z.undo();
        b.due("STEPS of 31, one taken back", z.about(2), 29);
        z.shake(1);
        b.due("STEPS then", z.about(2), 30);
        z.shake(1);
        b.due("30 at most", z.about(2), 30);
    }

    private static void stepsTakenBack() {
        b.of(15, "the latest first (THE HEAD, LEARNT, CLOCK, X, BOOK are as ahead of it)");
        HeadServo x = Heads.at(40);
        Heads.rule(x, "learns 16;");
        int lines = x.book(-1, 0);
        x.day(1);
        b.due("LEARNT", x.of(0, 1), 33);
        x.undo();
        b.row("is(what) as ahead", x, (y, v) -> y.is(v), 0, 0, 467, 40, 0, 0, 0, 0, 0, 0);
        b.due("LEARNT as ahead", x.of(0, 1), 0);
        b.due("lines as ahead", x.book(-1, 0), lines);
        for (int i = 1; i <= 30; i++) x.shake(i % 2 == 0 ? -1 : 1);
        int[] eldest = {x.book(0, 2), x.book(24, 2)};
        x.seek(4);
        b.due("the latest line", x.book(24, 1), 0);
        x.undo();
        b.due("25 lines as ahead", x.book(-1, 0), 25);
        b.due("the eldest line as ahead", x.book(0, 2), eldest[0]);
        b.due("the latest line as ahead", x.book(24, 2), eldest[1]);
        allOfTheHead();
        b.of(15, "The latest STEP is taken back: how many can be yet.");
        HeadServo y = new HeadServo();
        y.seek(3);
        y.wobble(2, 2);
        y.lose(2);
        y.request(5);
        y.said(1, 1);
        Check.read(y, "pulls 1;");
        y.by(0);
        Check.read(y, "pulls 1");
        y.feed(1, 2, 3, 4, 5);
        b.due("undo()", y.undo(), 0);
        b.due("TARGET", y.is(4), 0);
        b.due("WOBBLE is as told", y.of(2, 0), 2);
        b.due("LOST is as told", y.of(2, 2), 1);
        b.due("the FAULT stays", y.fault(0), 1);
        b.row("about(what)", y, (z, v) -> z.about(v), 0, 1, 0, 0, 1, 1, 20);
    }

    /** All that a STEP changes of THE HEAD is something else ahead of it. */
    private static HeadServo full() {
        HeadServo x = Heads.still("pulls if clock=0 then 0-9 else if clock=9 then 3 else 0 end end;");
        x.day(4);
        x.write();
        x.write();
        x.lose(7);
        x.wobble(7, 4);
        x.day(4);
        return x;
    }

    private static void isAll(String when, HeadServo x, long... want) {
        b.row("is(what) " + when, x, (y, v) -> y.is(v), 0, want);
    }

    private static void allOfTheHead() {
        // CLOCK, X, PLACE, SPEED, TARGET, ERROR, SETTLED, WRITTEN, STRUCK: READ 5 at PLACE 0.
        long[] ahead = {8, 3955, 0, 0, 0, -3, 8, 2, 1};
        HeadServo x = full();
        isAll("ahead", x, ahead);
        x.write();
        isAll("behind a write", x, 8, 3955, 0, 0, 0, -3, 8, 3, 1);
        x.undo();
        isAll("behind its undo()", x, ahead);
        x.seek(9);
        isAll("behind a seek", x, 8, 3955, 0, 0, 9, -3, 0, 2, 1);
        x.undo();
        isAll("behind its undo() of it", x, ahead);
        x.shake(2);
        isAll("behind a shake", x, 8, 3955, 2, 0, 0, -3, 0, 2, 1);
        x.undo();
        isAll("behind the undo() of it", x, ahead);
        Heads.lose(x, 0, 1);
        Heads.rule(x, "pulls if clock=8 then 0-1 else 3 end;learns 16;");
        x.day(1);
        // X 3955 draws 1: READ 0; it strikes.
        isAll("behind a SAMPLE", x, 9, 2860, 0, 0, 0, -8, 0, 2, 2);
        x.day(1);
        isAll("behind another one", x, 10, 1449, 3, 3, 0, -8, 0, 2, 2);
        b.due("LEARNT of 1", x.of(1, 1), -8);
        x.image();
        x.undo();
        isAll("behind the undo() of that one", x, 9, 2860, 0, 0, 0, -8, 0, 2, 2);
        b.due("LEARNT of 1 then", x.of(1, 1), 0);
        b.due("LEARNT of 0 then", x.of(0, 1), -8);
        x.undo();
        isAll("behind the undo() of both", x, ahead);
        b.due("LEARNT of 0 at last", x.of(0, 1), 0);
        x.back();
        isAll("behind back()", x, 10, 1449, 3, 3, 0, -8, 0, 2, 2);
        x.undo();
        isAll("behind back() and undo()", x, 9, 2860, 0, 0, 0, -8, 0, 2, 2);
    }

    private static void wobble() {
        b.of(2, "A WOBBLE told: true. False for others (0 .. 7; -7 .. 7).");
        HeadServo x = new HeadServo();
        for (int sector : new int[] {0, 1, 6, 7}) {
            for (int by : new int[] {-7, -6, 0, 6, 7}) {
                b.due("wobble(" + sector + ", " + by + ")", x.wobble(sector, by), true);
                b.due("WOBBLE", x.of(sector, 0), by);
            }
        }
        b.due("wobble(7, 7) once more", x.wobble(7, 7), true);
        b.outside("wobble(.., 1)", (y, v) -> Boundary.n(y.wobble(v, 1)), 0, 7, 0);
        b.outside("wobble(2, ..)", (y, v) -> Boundary.n(y.wobble(2, v)), -7, 7, 0);
        b.refused("wobble(8, 8)", y -> Boundary.n(y.wobble(8, 8)), 0);
    }

    private static void lose() {
        b.of(3, "Whether a SECTOR is LOST, is other: true. False for others.");
        HeadServo x = new HeadServo();
        int bits = 0;
        for (int sector : new int[] {0, 7, 1, 6, 0, 7, 7, 0}) {
            b.due("lose(" + sector + ")", x.lose(sector), true);
            bits ^= 1 << sector;
            b.due("lost()", x.lost(), bits);
        }
        b.outside("lose", (y, v) -> Boundary.n(y.lose(v)), 0, 7, 0);
    }

    private static void seek() {
        b.of(9, "SOUGHT: true. False for others (0 .. 63), and if it is the TARGET.");
        HeadServo x = new HeadServo();
        b.due("seek(63)", x.seek(63), true);
        b.due("seek(62)", x.seek(62), true);
        b.due("seek(1)", x.seek(1), true);
        b.due("seek(0)", x.seek(0), true);
        b.outside("seek", (y, v) -> Boundary.n(y.seek(v)), 0, 63, 0);
        b.refused("seek of the TARGET 0", y -> { }, y -> Boundary.n(y.seek(0)), 0);
        b.refused("seek of the TARGET 63", y -> y.seek(63), y -> Boundary.n(y.seek(63)), 0);
        b.refused("seek of the TARGET, settled", y -> y.day(30), y -> Boundary.n(y.seek(0)), 0);
    }

    private static void shake() {
        b.of(10, "SHAKEN: PLACE then. NONE for others (-40 .. 40, not 0).");
        int[][] want = {{-40, 460}, {-39, 461}, {-1, 499}, {1, 501}, {39, 539}, {40, 540}};
        for (int[] w : want) b.due("shake(" + w[0] + ") at 500", Heads.at(500).shake(w[0]), w[1]);
        b.outside("shake", (y, v) -> y.shake(v), -40, 40, -1);
        b.refused("shake(0)", y -> y.shake(0), -1);
    }

    private static void write() {
        b.of(11, "WRITTEN: the TRACK. NONE: the gate is shut.");
        for (int track : new int[] {0, 63}) {
            HeadServo x = Heads.still();
            x.seek(track);
            x.day(3);
            b.due("write()", x.write(), track);
            b.due("write() again", x.write(), track);
        }
        b.refused("write() anew", y -> { }, y -> y.write(), -1);
        b.refused("write() by SETTLED 2", y -> Heads.lose(y, 0, 1).day(2), y -> y.write(), -1);
        b.refused("write() behind a seek", y -> {
            Heads.busy(y);
            y.seek(50);
        }, y -> y.write(), -1);
    }

    private static void day() {
        b.of(12, "SAMPLES pass (1 .. 60): SETTLED then. NONE for others, or beyond 9999 (nothing is done then).");
        b.due("day(1)", Heads.still().day(1), 1);
        b.due("day(2)", Heads.still().day(2), 2);
        b.due("day(59)", Heads.still().day(59), 59);
        b.due("day(60)", Heads.still().day(60), 60);
        b.outside("day", (y, v) -> y.day(v), 1, 60, -1);
        for (int left : new int[] {1, 2, 59, 60}) {
            HeadServo x = Heads.pass(Heads.still(), 9999 - left);
            b.due("day of all that can pass", x.day(left), 99);
            b.due("CLOCK", x.is(0), 9999);
            if (left < 60) {
                b.refused("day(" + (left + 1) + ") with " + left + " left", y -> Heads.pass(y, 9999 - left), y -> y.day(left + 1), -1);
            }
            if (left > 1) {
                HeadServo z = Heads.pass(Heads.still(), 9999 - left);
                b.due("day of one less than can pass", z.day(left - 1), 99);
                b.due("CLOCK then", z.is(0), 9998);
            }
        }
    }

    private static void undo() {
        b.of(15, "NONE: there is none.");
        b.refused("undo() anew", y -> { }, y -> y.undo(), -1);
        b.refused("undo() behind what was told", y -> {
            y.wobble(1, 1);
            y.lose(3);
            Heads.rule(y, "pulls 1;");
            y.request(1);
            y.said(1, 1);
            y.image();
        }, y -> y.undo(), -1);
        b.refused("undo() of all that can be", y -> {
            Heads.busy(y);
            for (int i = 0; i < 30; i++) y.undo();
        }, y -> y.undo(), -1);
        HeadServo x = Heads.steps(1);
        b.due("undo() of one", x.undo(), 0);
        b.due("undo() of none", x.undo(), -1);
    }

    private static void of() {
        b.of(16, "Of a SECTOR: 0 its WOBBLE, 1 LEARNT, 2 whether it is LOST (1, 0). -100 for others.");
        HeadServo x = Heads.wobbles(7, 0, 0, 0, 0, 0, 0, -7);
        x.lose(7);
        x.shake(-7);
        x.day(1);
        b.row("of(0, what)", x, (y, v) -> y.of(0, v), -1, -100, 7, 0, 0, -100);
        b.row("of(7, what)", x, (y, v) -> y.of(7, v), -1, -100, -7, 0, 1, -100);
        HeadServo z = Heads.at(1000);
        z.day(1);
        b.row("of(0, what) far off", z, (y, v) -> y.of(0, v), -1, -100, 0, 99, 0, -100);
        b.outside("of(.., 0)", (y, v) -> y.of(v, 0), 0, 7, -100);
        b.outside("of(.., 2)", (y, v) -> y.of(v, 2), 0, 7, -100);
        b.outside("of(1, ..)", (y, v) -> y.of(1, v), 0, 2, -100);
    }

    private static void is() {
        b.of(17, "0 CLOCK, 1 X, 2 PLACE, 3 SPEED, 4 TARGET, 5 ERROR, 6 SETTLED, 7 how often it was WRITTEN, 8 how often it STRUCK. -10000 for others.");
        HeadServo x = Heads.still("pulls if clock=0 then 0-9 else if clock=4 then 1 else 0 end end;");
        x.seek(63);
        x.day(4);
        x.write();
        x.write();
        x.lose(4);
        x.day(1);
        // READ 1 at PLACE 0, the middle of TRACK 63 being 1016.
        b.row("is(what)", x, (y, v) -> y.is(v), -1, -10000, 5, 3955, 1, 1, 63, -999, 0, 2, 1, -10000);
        b.outside("is", (y, v) -> y.is(v), 0, 8, -10000);
    }

    private static void pulls() {
        b.of(18, "pulls now.");
        HeadServo x = Heads.still("pulls clock-4;");
        for (int i = 0; i < 16; i++) {
            b.due("pulls() at CLOCK " + i, x.pulls(), Math.min(9, i - 4));
            x.day(1);
        }
        b.quiet("pulls()", y -> y.pulls());
    }

    private static void book() {
        b.of(19, "BOOK: how many (i NONE); the i-th, from the eldest on: 0 CLOCK, 1 what (0 sought, 1 shaken, 2 written, 3 settled, 4 struck), 2 the TRACK, by how much, the TRACK, the TRACK, PLACE. -100 if there is none such, and for others.");
        HeadServo x = new HeadServo();
        b.row("book(i, 0) of none", x, (y, v) -> y.book(v, 0), -2, -100, 0, -100, -100);
        x.seek(63);
        b.row("book(i, 2) of one", x, (y, v) -> y.book(v, 2), -2, -100, 1, 63, -100);
        x.shake(-40);
        b.row("book(i, 2) of two", x, (y, v) -> y.book(v, 2), -2, -100, 2, 63, -40, -100);
        b.row("book(1, what)", x, (y, v) -> y.book(1, v), -1, -100, 0, 1, -40, -100);
        for (int i = 0; i < 40; i++) x.shake(1);
        b.row("book(i, 2) of 25", x, (y, v) -> y.book(v, 2), 23, 1, 1, -100);
        b.outside("book(.., 0)", (y, v) -> y.book(v, 0), -1, 24, -100);
        b.outside("book(0, ..)", (y, v) -> y.book(0, v), 0, 2, -100);
        b.outside("book(24, ..)", (y, v) -> y.book(24, v), 0, 2, -100);
    }
}
