/** Boundaries of sectors, of whose law it was and of the book (IV), of promises 43 to 54. */
public final class BoundarySectorTest {
    private static final Boundary b = new Boundary();

    public static void main(String[] args) {
        steady();
        spread();
        mean();
        window();
        longest();
        said();
        whose();
        none();
        lost();
        far();
        worst();
        most();
        ledger();
        b.end();
    }

    /** LEARNT of SECTOR 0 is told (-7 .. 99), WOBBLES are as told then. */
    private static HeadServo taught(int learnt, int... wobbles) {
        HeadServo x = Heads.at(7 + learnt);
        Heads.rule(x, "pulls 0;learns 16;");
        x.day(1);
        b.due("LEARNT of SECTOR 0", x.of(0, 1), learnt);
        for (int s = 0; s < wobbles.length; s++) x.wobble(s, wobbles[s]);
        return x;
    }

    private static HeadServo allLost() {
        return Heads.lose(Heads.wobbles(5, -6, 7, 1, 2, 3, 4, 5), 0, 1, 2, 3, 4, 5, 6, 7);
    }

    private static void steady() {
        b.of(43, "STEADY: SECTORS not LOST whose WOBBLE less LEARNT is -3 .. 3.");
        b.due("steady() anew", new HeadServo().steady(), 255);
        b.due("steady() of all boundaries", Heads.wobbles(-4, -3, -2, 2, 3, 4, 7, -7).steady(), 2 + 4 + 8 + 16);
        for (int s = 0; s < 8; s++) {
            HeadServo x = new HeadServo();
            for (int by : new int[] {-4, 4}) {
                x.wobble(s, by);
                b.due("steady(), " + by + " in " + s, x.steady(), 255 - (1 << s));
            }
            for (int by : new int[] {-3, 3}) {
                x.wobble(s, by);
                b.due("steady(), " + by + " in " + s, x.steady(), 255);
            }
            x.lose(s);
            b.due("steady() without " + s, x.steady(), 255 - (1 << s));
        }
        int[][] rows = {{5, 1, 254}, {5, 2, 255}, {5, 3, 255}, {5, 7, 255}, {4, 7, 255}, {3, 7, 254}, {-5, -1, 254}, {-5, -2, 255},
            {-5, -7, 255}, {-4, -7, 255}, {-3, -7, 254}};
        for (int[] w : rows) b.due("steady() of WOBBLE " + w[1] + ", LEARNT " + w[0], taught(w[0], w[1]).steady(), w[2]);
        b.due("steady() of none", allLost().steady(), 0);
    }

    private static void spread() {
        b.of(44, "THE SPREAD: by how much the greatest WOBBLE (learnt true: WOBBLE less LEARNT) of SECTORS not LOST is more than the least (0: none is).");
        HeadServo x = Heads.wobbles(7, -7, 3, 3, 3, 3, 3, 3);
        b.due("spread(false)", x.spread(false), 14);
        b.due("spread(true)", x.spread(true), 14);
        b.due("spread(false) without 0", Heads.lose(x, 0).spread(false), 10);
        b.due("spread(false) without 0 and 1", Heads.lose(x, 1).spread(false), 0);
        HeadServo above = Heads.wobbles(5, 6, 7, 5, 5, 5, 5, 5);
        b.due("spread(false), all above 0", above.spread(false), 2);
        HeadServo below = Heads.wobbles(-5, -6, -7, -5, -5, -5, -5, -5);
        b.due("spread(false), all below 0", below.spread(false), 2);
        b.due("spread(true), all below 0", below.spread(true), 2);
        b.due("spread(false) of none", allLost().spread(false), 0);
        b.due("spread(true) of none", allLost().spread(true), 0);
        HeadServo one = allLost();
        one.lose(7);
        b.due("spread(false) of one", one.spread(false), 0);
        b.due("spread(true) of one", one.spread(true), 0);
        HeadServo y = taught(99, 7, 3, 2, 2, 2, 2, 2, 2);
        b.due("spread(false) of LEARNT 99", y.spread(false), 5);
        b.due("spread(true) of LEARNT 99", y.spread(true), 95);
    }

    private static void means(HeadServo x, long upper, long lower) {
        b.due("mean(false)", x.mean(false), upper);
        b.due("mean(true)", x.mean(true), lower);
    }

    private static void mean() {
        b.of(45, "THE MEAN of WOBBLE less LEARNT of SECTORS not LOST, in lowest terms (the sign above; none: 0 by 1).");
        means(new HeadServo(), 0, 1);
        means(Heads.wobbles(1), 1, 8);
        means(Heads.wobbles(-1), -1, 8);
        means(Heads.wobbles(1, 1), 1, 4);
        means(Heads.wobbles(-1, -1), -1, 4);
        means(Heads.wobbles(7, 1), 1, 1);
        means(Heads.wobbles(-7, -1), -1, 1);
        means(Heads.wobbles(7, -7), 0, 1);
        means(Heads.wobbles(7, 7, 7, 7, 7, 7, 7, 7), 7, 1);
        means(Heads.wobbles(-7, -7, -7, -7, -7, -7, -7, -6), -55, 8);
        means(Heads.lose(Heads.wobbles(5, 4), 7, 6), 3, 2);
        means(Heads.lose(Heads.wobbles(-5, -4), 7, 6), -3, 2);
        means(Heads.lose(Heads.wobbles(5, 5), 7), 10, 7);
        means(Heads.lose(Heads.wobbles(7, 7), 7), 2, 1);
        means(Heads.lose(Heads.wobbles(7, 7), 0), 1, 1);
        means(taught(99), -99, 8);
        means(taught(-7), 7, 8);
        means(taught(-7, 1), 1, 1);
        means(allLost(), 0, 1);
        HeadServo one = allLost();
        one.lose(1);
        means(one, -6, 1);
        HeadServo still = Heads.lose(new HeadServo(), 0, 1, 2);
        means(still, 0, 1);
    }

    private static void window() {
        b.of(46, "A WINDOW: of so many SECTORS one behind the other, around, none LOST, from which one on WOBBLE less LEARNT is at most nearest 0 (without its sign; the farthest of each least); of like ones the lowest; none.");
        HeadServo x = Heads.wobbles(1, -4, 2, 5, -2, 3, 6, 0);
        b.row("window(sectors)", x, (y, v) -> y.window(v), 0, -1, 7, 7, 0, 7, 0, 0, 7, 0, -1);
        b.row("window(sectors) anew", new HeadServo(), (y, v) -> y.window(v), 0, -1, 0, 0, 0, 0, 0, 0, 0, 0, -1);
        HeadServo around = Heads.wobbles(1, 7, 7, 7, 7, 7, 1, 1);
        b.due("window(3) around", around.window(3), 6);
        b.due("window(2), of like ones the lowest", around.window(2), 6);
        b.due("window(1), of like ones the lowest", around.window(1), 0);
        HeadServo signs = Heads.wobbles(7, -3, 4, -2, 7, 2, 7, 7);
        b.due("window(1), without its sign, of like ones the lowest", signs.window(1), 3);
        HeadServo y = Heads.lose(Heads.wobbles(0, 5, 5, 5, 0, 5, 5, 5), 0);
        b.due("window(1), one LOST", y.window(1), 4);
        b.due("window(7), one LOST", y.window(7), 1);
        b.due("window(8), one LOST", y.window(8), -1);
        y.lose(4);
        b.due("window(1), two LOST", y.window(1), 1);
        b.due("window(3), two LOST", y.window(3), 1);
        b.due("window(4), two LOST", y.window(4), -1);
        b.due("window(1) of none", allLost().window(1), -1);
        HeadServo last = allLost();
        last.lose(7);
        b.due("window(1) of one", last.window(1), 7);
        b.due("window(2) of one", last.window(2), -1);
        HeadServo two = allLost();
        Heads.lose(two, 7, 0);
        b.due("window(2) of two around", two.window(2), 7);
        b.due("window(3) of two around", two.window(3), -1);
        b.due("window(1) of LEARNT", taught(5, 5, 1, 1, 1, 1, 1, 1, 1).window(1), 0);
        b.due("window(1) of LEARNT 99", taught(99, 0, 7, 7, 6, 7, 7, 7, 7).window(1), 3);
        b.due("window(8) of LEARNT 99", taught(99, 0, 7, 7, 6, 7, 7, 7, 7).window(8), 0);
        b.of(46, "A WINDOW: the first SECTOR. NONE: none, and for others (1 .. 8).");
        b.due("window(8)", new HeadServo().window(8), 0);
        b.outside("window", (z, v) -> z.window(v), 1, 8, -1);
    }

    private static void longest() {
        b.of(47, "THE LONGEST row of STEADY SECTORS one behind the other, around.");
        b.due("longest() anew", new HeadServo().longest(), 8);
        for (int s = 0; s < 8; s++) {
            b.due("longest() without " + s, Heads.lose(new HeadServo(), s).longest(), 7);
            b.due("longest() but " + s + " and the next one", Heads.lose(new HeadServo(), s, (s + 1) % 8).longest(), 6);
            b.due("longest() but " + s + " and that over against it", Heads.lose(new HeadServo(), s, (s + 4) % 8).longest(), 3);
        }
        b.due("longest() around", Heads.wobbles(0, 0, 4, 0, 4, 0, 4, 0).longest(), 3);
        b.due("longest() not around", Heads.wobbles(4, 0, 0, 0, 4, 0, 0, 0).longest(), 3);
        b.due("longest() from 0 on", Heads.wobbles(0, 0, 0, 4, 0, 4, 0, 4).longest(), 3);
        b.due("longest() to 7", Heads.wobbles(4, 0, 4, 0, 4, 0, 0, 0).longest(), 3);
        b.due("longest() of every other one", Heads.wobbles(0, 4, 0, 4, 0, 4, 0, 4).longest(), 1);
        b.due("longest() of 3 and -3", Heads.wobbles(3, -3, 3, -3, 3, -3, 3, -3).longest(), 8);
        b.due("longest() of 4 and -4", Heads.wobbles(4, -4, 4, -4, 4, -4, 4, -4).longest(), 0);
        b.due("longest() of none", Heads.lose(new HeadServo(), 0, 1, 2, 3, 4, 5, 6, 7).longest(), 0);
        b.due("longest() of one", Heads.lose(new HeadServo(), 0, 1, 2, 3, 4, 5, 6).longest(), 1);
    }

    private static void said() {
        b.of(48, "SAID: how many there are (error below -999: none any more). -2 for others (-999 .. 999; -9 .. 9), or if there are 8.");
        HeadServo x = new HeadServo();
        int[][] told = {{-999, -9}, {999, 9}, {-998, -8}, {998, 8}, {0, 0}, {0, -9}, {0, 9}, {999, -9}};
        for (int i = 0; i < 8; i++) {
            b.due("said(" + told[i][0] + ", " + told[i][1] + ")", x.said(told[i][0], told[i][1]), i + 1);
            b.due("about(4)", x.about(4), i + 1);
        }
        b.due("said(0, 0) of 8", x.said(0, 0), -2);
        b.due("about(4) of 8", x.about(4), 8);
        b.due("said(-1000, 0) of 8", x.said(-1000, 0), 0);
        b.due("about(4) then", x.about(4), 0);
        b.due("said(-1000, 0) of none", x.said(-1000, 0), 0);
        b.due("said(-999, 0) then", x.said(-999, 0), 1);
        b.due("said(least, 0)", x.said(Integer.MIN_VALUE, 0), 0);
        b.due("about(4) behind it", x.about(4), 0);
        for (int error : new int[] {1000, Integer.MAX_VALUE}) b.refused("said(" + error + ", 0)", y -> y.said(error, 0), -2);
        b.outside("said(0, ..)", (y, v) -> y.said(0, v), -9, 9, -2);
        b.outside("said(-999, ..)", (y, v) -> y.said(-999, v), -9, 9, -2);
        for (int error : new int[] {-999, 0, 999}) {
            b.refused("said(" + error + ", 0) of 8", y -> {
                Heads.busy(y);
                for (int i = 0; i < 6; i++) y.said(i, -1);
            }, y -> y.said(error, 0), -2);
        }
        b.of(48, "(told: SAID, 8 at most: an ERROR, pulls)");
        HeadServo z = Check.ruled("pulls 1;");
        for (int i = 0; i < 7; i++) z.said(i, 1);
        b.due("whose() of seven", z.whose(), 1);
        b.due("the eighth", z.said(9, 1), 8);
        b.due("whose() of eight", z.whose(), 1);
        b.due("a ninth", z.said(9, 2), -2);
        b.due("whose() without the ninth", z.whose(), 1);
        HeadServo v = Check.ruled("pulls 1;");
        for (int i = 0; i < 7; i++) v.said(i, 1);
        v.said(9, 2);
        b.due("whose() of eight, the eighth not being so", v.whose(), 0);
    }

    private static void whose() {
        b.of(49, "TEXTS (bits) by whose pulls (a TEXT without it: by what is so without) all are so (all else as now).");
        HeadServo x = new HeadServo();
        b.due("whose() of no TEXTS, none SAID", x.whose(), 0);
        x.said(0, 0);
        b.due("whose() of no TEXTS", x.whose(), 0);
        x.said(-1000, 0);
        Check.read(x, "pulls error;");
        Check.read(x, "learns 3;");
        Check.read(x, "pulls 0-curve error;");
        b.due("whose() of three, none SAID", x.whose(), 7);
        Check.read(x, "pulls error+0;");
        b.due("whose() of four, none SAID", x.whose(), 15);
        // What a law pulls is held: 9 at most, without a law 4.
        int[][] rows = {{8, 8, 9}, {9, 9, 9}, {10, 9, 9}, {-10, -9, 9}, {10, -4, 6}, {15, -4, 2}, {15, -5, 4}, {-999, 4, 2},
            {-999, 9, 4}, {999, -9, 4}, {-999, -9, 9}, {999, 9, 9}, {0, 0, 15}, {0, 1, 0}, {-1, 1, 6}, {1, -1, 6}};
        for (int[] w : rows) {
            x.said(-1000, 0);
            x.said(w[0], w[1]);
            b.due("whose() of " + w[0] + ", " + w[1], x.whose(), w[2]);
        }
        b.due("ERROR stays", x.is(5), 0);
        HeadServo y = Heads.still("pulls speed+clock+settled+target+sector+learnt 0;");
        Check.read(y, "pulls 0;");
        y.day(2);
        y.said(5, y.pulls());
        b.due("whose() by all else as now", y.whose(), 1);
        y.by(1);
        b.due("whose() by any TEXT, whichever rules", y.whose(), 1);
        y.by(-1);
        b.due("whose() by any TEXT, none ruling", y.whose(), 1);
        HeadServo z = Check.ruled("pulls 1;");
        z.said(0, 1);
        z.said(0, 1);
        b.due("whose() of two that are so", z.whose(), 1);
        z.said(0, 2);
        b.due("whose() if one of three isn't so", z.whose(), 0);
    }

    private static void none() {
        b.of(26, "The constants: `NONE = -1`: None.");
        b.due("NONE", HeadServo.NONE, -1);
        b.of(52, "THE WORST SECTOR. NONE: none.");
        b.due("worst() of none", allLost().worst(), HeadServo.NONE);
        for (int s = 0; s < 8; s++) {
            HeadServo x = allLost();
            x.lose(s);
            b.due("worst() of one", x.worst(), s);
        }
    }

    private static void lost() {
        b.of(50, "LOST SECTORS (bits).");
        b.due("lost() anew", new HeadServo().lost(), 0);
        for (int s = 0; s < 8; s++) b.due("lost() of " + s, Heads.lose(new HeadServo(), s).lost(), 1 << s);
        b.due("lost() of all", Heads.still().lost(), 255);
        b.due("lost() of none any more", Heads.lose(Heads.still(), 0, 1, 2, 3, 4, 5, 6, 7).lost(), 0);
    }

    private static void far() {
        b.of(51, "HOW FAR THE HEAD is from the middle of a TRACK: PLACE less that.");
        int[][] rows = {{0, 0, -8}, {7, 0, -1}, {8, 0, 0}, {9, 0, 1}, {1023, 0, 1015}, {0, 63, -1016}, {1015, 63, -1}, {1016, 63, 0},
            {1017, 63, 1}, {1023, 63, 7}};
        for (int[] w : rows) b.due("far(" + w[1] + ") at " + w[0], Heads.at(w[0]).far(w[1]), w[2]);
        b.of(51, "HOW FAR THE HEAD is. -10000 for others (0 .. 63).");
        b.row("far(track)", new HeadServo(), (x, v) -> x.far(v), -1, -10000, 0, -16);
        b.row("far(track)", new HeadServo(), (x, v) -> x.far(v), 62, -992, -1008, -10000);
        b.outside("far", (x, v) -> x.far(v), 0, 63, -10000);
    }

    private static void worst() {
        b.of(52, "THE WORST SECTOR: not LOST, of WOBBLE less LEARNT farthest from 0; of like ones the lowest; none.");
        b.due("worst() anew", new HeadServo().worst(), 0);
        b.due("worst() of like ones", Heads.wobbles(0, 0, -5, 5, 0, 5).worst(), 2);
        b.due("worst() of like ones, the other sign first", Heads.wobbles(0, 0, 5, -5, 0, 5).worst(), 2);
        b.due("worst() of one more", Heads.wobbles(0, 0, 5, -6, 0, 5).worst(), 3);
        b.due("worst() at 7", Heads.wobbles(6, 6, 6, 6, 6, 6, 6, -7).worst(), 7);
        b.due("worst(), that being LOST", Heads.lose(Heads.wobbles(6, 6, 6, 6, 6, 6, 6, -7), 7).worst(), 0);
        b.due("worst() without 0", Heads.lose(new HeadServo(), 0).worst(), 1);
        b.due("worst() of LEARNT", taught(8, 7, 0, 1).worst(), 0);
        b.due("worst() of LEARNT, like another", taught(8, 7, 1).worst(), 0);
        b.due("worst() of LEARNT, less than another", taught(8, 7, 2).worst(), 1);
        HeadServo one = allLost();
        one.lose(7);
        b.due("worst() of one", one.worst(), 7);
        b.due("worst() of none", allLost().worst(), -1);
    }

    private static void most() {
        b.of(53, "THE MOST by BOOK: which TRACK (of shaken: by how much; of struck: PLACE) is there most often in lines of a kind; of like ones the lowest; none.");
        HeadServo x = new HeadServo();
        b.row("most(what) of none", x, (y, v) -> y.most(v), -1, -100, -100, -100, -100, -100, -100, -100);
        x.seek(9);
        b.due("most(0) of one", x.most(0), 9);
        x.seek(4);
        b.due("most(0) of two like ones", x.most(0), 4);
        x.seek(9);
        b.due("most(0) of two and one", x.most(0), 9);
        x.seek(4);
        x.seek(0);
        b.due("most(0) of two, two and one", x.most(0), 4);
        HeadServo s = new HeadServo();
        s.shake(40);
        s.shake(-40);
        b.due("most(1) of two like ones", s.most(1), -40);
        s.shake(-39);
        b.due("most(1) of three like ones", s.most(1), -40);
        s.shake(40);
        b.due("most(1) of two and others", s.most(1), 40);
        HeadServo w = Heads.still();
        w.seek(7);
        w.day(3);
        w.write();
        w.seek(3);
        w.day(3);
        w.write();
        w.write();
        w.seek(7);
        w.day(3);
        b.due("most(2)", w.most(2), 3);
        b.due("most(3)", w.most(3), 7);
        b.due("most(4) of none", w.most(4), -100);
        HeadServo k = Heads.still("pulls 0-9;");
        k.day(1);
        b.due("most(4) at the lower rim", k.most(4), 0);
        Heads.rule(k, "pulls 9;");
        Heads.shaken(k, 1023);
        k.day(2);
        b.due("most(4) of the lines that are left", k.most(4), 1023);
        HeadServo both = Heads.still("pulls 0-9;");
        Heads.shaken(both, 1023);
        both.day(1);
        Heads.rule(both, "pulls 9;");
        both.day(5);
        b.due("struck above", both.is(8) > 0, true);
        b.due("most(4) above", both.most(4), 1023);
        b.of(53, "THE MOST by BOOK. -100: none, and for others (0 .. 4).");
        HeadServo z = new HeadServo();
        z.seek(1);
        for (int i = 0; i < 24; i++) z.shake(1);
        b.due("most(0) of 25 lines", z.most(0), 1);
        z.shake(1);
        b.due("most(0), its line being the 26th", z.most(0), -100);
        b.outside("most", (y, v) -> y.most(v), 0, 4, -100);
    }

    private static void ledger() {
        b.of(54, "BY THE BOOK: how many lines there are of a kind.");
        b.row("ledger(what) of none", new HeadServo(), (y, v) -> y.ledger(v), -1, -2, 0, 0, 0, 0, 0, -2);
        HeadServo x = Heads.still("pulls if clock>3 then 0-9 else 0 end;");
        x.seek(1);
        x.seek(0);
        x.shake(1);
        x.day(4);
        x.write();
        x.write();
        x.write();
        x.day(3);
        // Just at the rim at first, or beyond it: 9 - 9 is 0, then struck twice; there it settles again.
        b.row("ledger(what)", x, (y, v) -> y.ledger(v), -1, -2, 2, 1, 3, 1, 2, -2);
        for (int n = 24; n <= 26; n++) {
            HeadServo z = new HeadServo();
            z.seek(1);
            for (int i = 1; i < n; i++) z.shake(1);
            b.due("ledger(0) of " + n, z.ledger(0), n > 25 ? 0 : 1);
            b.due("ledger(1) of " + n, z.ledger(1), n > 25 ? 25 : n - 1);
        }
        b.of(54, "BY THE BOOK. -2 for others (0 .. 4).");
        b.outside("ledger", (y, v) -> y.ledger(v), 0, 4, -2);
    }
}
