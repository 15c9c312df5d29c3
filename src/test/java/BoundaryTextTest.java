/** Boundaries of the tape, the TEXTS and their language (II), and of promises 4 to 8, 13 and 18. */
public final class BoundaryTextTest {
    private static final Boundary b = new Boundary();

    public static void main(String[] args) {
        feed();
        end();
        text();
        fault();
        by();
        tapeLength();
        tokensByByte();
        tokensTogether();
        clauses();
        lawClauses();
        scriptClauses();
        sums();
        curve();
        learnt();
        choices();
        names();
        cutAndZero();
        atMostMillion();
        bothSides();
        firstFault();
        cannotStand();
        numbers();
        depthOfOne();
        depthOfIf();
        depthClosed();
        secondTime();
        clause25();
        pullsLaw();
        pullsWithout();
        learnsLaw();
        played();
        playedToTheEnd();
        b.end();
    }

    private static String times(String what, int n) {
        StringBuilder all = new StringBuilder();
        for (int i = 0; i < n; i++) all.append(what);
        return all.toString();
    }

    private static void reads(String text, int number, int place) {
        HeadServo x = new HeadServo();
        b.due("text() of [" + text + "]", Check.read(x, text), number == 0 ? 0 : -1);
        b.due("fault(0) of [" + text + "]", x.fault(0), number);
        b.due("fault(1) of [" + text + "]", x.fault(1), place);
        b.due("about(0) of [" + text + "]", x.about(0), number == 0 ? 1 : 0);
        b.due("about(5) of [" + text + "]", x.about(5), 0);
    }

    private static void sound(String text) {
        reads(text, 0, -1);
    }

    /** What a SUM is worth in pulls on a new object. */
    private static void sum(String sum, int want) {
        b.due("pulls() by " + sum, Check.ruled("pulls " + sum + ";").pulls(), want);
    }

    private static void length(HeadServo x, int n) {
        x.end(0);
        while (x.about(5) < n) x.feed(0x20202020, 0x20202020, 0x20202020, 0x20202020, 0x20202020);
        x.end(n);
    }

    private static void feed() {
        b.of(4, "Twenty bytes come behind the tape, the highest of a first: how many it has.");
        HeadServo x = new HeadServo();
        // "wobble 6 by 7;lose 1" and ";" behind it.
        b.due("feed", x.feed(0x776f6262, 0x6c652036, 0x20627920, 0x373b6c6f, 0x73652031), 20);
        b.due("feed", x.feed(0x3b000000, 0, 0, 0, 0), 40);
        x.end(21);
        b.due("text()", x.text(), 0);
        b.due("played(0)", x.played(0), -1);
        b.due("WOBBLE", x.of(6, 0), 7);
        b.due("lost()", x.lost(), 2);
        HeadServo y = new HeadServo();
        for (int i = 1; i <= 15; i++) b.due("feed " + i, y.feed(i, i, i, i, i), 20 * i);
        for (int i = 0; i < 20; i++) {
            // A byte 255 among blanks: it is where it was put, and is one byte of 0 .. 255.
            int[] v = {0x20202020, 0x20202020, 0x20202020, 0x20202020, 0x20202020};
            v[i / 4] |= 255 << 24 - i % 4 * 8;
            HeadServo z = new HeadServo();
            z.feed(v[0], v[1], v[2], v[3], v[4]);
            z.text();
            b.due("fault(1) of byte " + i, z.fault(1), i);
        }
        b.of(4, "NONE, and none come, if there would be more than 300.");
        int[][] rows = {{0, 20}, {279, 299}, {280, 300}};
        for (int[] w : rows) {
            HeadServo z = new HeadServo();
            length(z, w[0]);
            b.due("feed at " + w[0], z.feed(1, 2, 3, 4, 5), w[1]);
            b.due("about(5) at " + w[0], z.about(5), w[1]);
        }
        for (int n : new int[] {281, 282, 299, 300}) {
            b.refused("feed at " + n, z -> {
                length(z, n - 7);
                z.end(n - 20);
                Check.feedBehind(z, "             day 61;");
            }, z -> z.feed(1, 2, 3, 4, 5), -1);
        }
    }

    private static void end() {
        b.of(7, "(of the end at the length)");
        cut("write;", 4, 1, 0);
        cut("write;", 5, 1, 5);
        cut("day 61;", 5, 1, 5);
        cut("day 61;", 6, 2, 4);
        cut("lose 1;lose 1;", 7, 0, -1);
        cut("lose 1;lose 1;", 8, 1, 7);
        cut("pulls speedy;", 11, 1, 11);
        cut("pulls if 1<=2", 11, 1, 11);
        cut("   ;", 3, 0, -1);
        cut("   ;", 4, 1, 3);
        b.of(5, "The tape has its first n bytes alone: n. NONE, and nothing is done, if it has not so many, or n is below 0.");
        HeadServo x = new HeadServo();
        b.due("end(0) of none", x.end(0), 0);
        x.feed(1, 1, 1, 1, 1);
        b.due("end(20) of 20", x.end(20), 20);
        b.due("end(19) of 20", x.end(19), 19);
        b.due("end(1) of 19", x.end(1), 1);
        b.due("end(0) of 1", x.end(0), 0);
        b.refused("end(1) of none", y -> { }, y -> y.end(1), -1);
        b.refused("end(-1) of none", y -> { }, y -> y.end(-1), -1);
        b.outside("end", (y, v) -> y.end(v), 0, "pulls 7-speed;lose 2;".length(), -1);
        b.refused("end(300) of 299", y -> {
            length(y, 299);
        }, y -> y.end(300), -1);
        HeadServo y = new HeadServo();
        length(y, 300);
        b.due("end(300) of 300", y.end(300), 300);
        b.due("end(299) of 300", y.end(299), 299);
        HeadServo z = new HeadServo();
        Check.feed(z, "lose 3;lose 4;");
        z.end(7);
        b.due("text() of the first seven", z.text(), 0);
        z.played(0);
        b.due("lost()", z.lost(), 8);
        HeadServo v = new HeadServo();
        Check.feed(v, "lose 3;");
        v.end(6);
        Check.feedBehind(v, " ; lose 5;          ");
        b.due("text() of what came behind the cut", v.text(), 0);
        v.played(0);
        b.due("lost() then", v.lost(), 40);
    }

    private static void cut(String tape, int n, int number, int place) {
        HeadServo x = new HeadServo();
        Check.feed(x, tape);
        x.end(n);
        x.text();
        b.due("fault(0) of the first " + n + " of [" + tape + "]", x.fault(0), number);
        b.due("fault(1) of the first " + n + " of [" + tape + "]", x.fault(1), place);
    }

    private static void text() {
        b.of(6, "The tape (empty then) is a TEXT: its number. NONE: it has a FAULT; or (the tape stays) there are 4.");
        HeadServo x = new HeadServo();
        for (int i = 0; i < 4; i++) {
            b.due("text() of one with a FAULT", Check.read(x, "lose 1"), -1);
            b.due("about(0) behind it", x.about(0), i);
            b.due("about(5) behind it", x.about(5), 0);
            b.due("text() of TEXT " + i, Check.read(x, "pulls " + (i + 1) + ";"), i);
            b.due("about(0)", x.about(0), i + 1);
            b.due("about(5)", x.about(5), 0);
            x.by(i);
            b.due("pulls() by it", x.pulls(), i + 1);
        }
        for (int i = 0; i < 4; i++) {
            x.by(i);
            b.due("pulls() by " + i, x.pulls(), i + 1);
        }
        for (String tape : new String[] {"", "lose 4;", "lose 8;"}) {
            b.refused("text() of [" + tape + "] by 4 TEXTS", y -> {
                for (int i = 0; i < 4; i++) Check.read(y, "pulls 7;lose " + i + ";");
                y.by(3);
                Check.feed(y, tape);
            }, y -> y.text(), -1);
        }
        // What was read of a TEXT up to its FAULT is no part of the next one.
        HeadServo z = new HeadServo();
        for (int i = 0; i < 9; i++) Check.read(z, "lose 1;pulls 1" + times("+1", 140) + ";learns");
        b.due("text() behind many with a FAULT", Check.read(z, "learns 2;lose 2;"), 0);
        b.due("played(0)", z.played(0), -1);
        b.due("lost() by its own CLAUSES", z.lost(), 4);
        z.by(0);
        z.day(1);
        b.due("SPEED without its pulls", z.is(3), -1);
        Check.read(z, "pulls 7;lose 4;lose 5;lose 6;learns 16;write");
        b.due("text() behind one with more CLAUSES", Check.read(z, "lose 3;"), 1);
        b.due("played(1)", z.played(1), -1);
        b.due("lost() by its own CLAUSE", z.lost(), 12);
        for (int i = 0; i < 9; i++) Check.read(z, "learns 1" + times("+1", 140) + ";pulls");
        b.due("text() of a long one behind many with a FAULT", Check.read(z, "pulls 140" + times("-1", 138) + ";"), 2);
        z.by(2);
        b.due("pulls() by all of it", z.pulls(), 2);
        b.of(6, "TEXTS 0 .. 3");
        HeadServo y = new HeadServo();
        for (int i = 0; i < 3; i++) Check.read(y, "");
        b.due("by(3) of three", y.by(3), false);
        b.due("played(3) of three", y.played(3), -2);
        Check.read(y, "lose 1;");
        b.due("by(3) of four", y.by(3), true);
        b.due("played(3) of four", y.played(3), -1);
        b.due("by(4)", y.by(4), false);
        b.due("played(4)", y.played(4), -2);
    }

    private static void fault() {
        b.of(7, "Of the latest text that was read: 0 its FAULT (0 without), 1 its place (NONE without). NONE for others, and ahead of any.");
        HeadServo x = new HeadServo();
        b.row("fault(what) ahead of any", x, (y, v) -> y.fault(v), -1, -1, -1, -1, -1);
        Check.feed(x, "lose 8;");
        b.row("fault(what) ahead of any, the tape being fed", x, (y, v) -> y.fault(v), -1, -1, -1, -1, -1);
        x.text();
        b.row("fault(what) of a FAULT", x, (y, v) -> y.fault(v), -1, -1, 2, 5, -1);
        Check.read(x, "lose 7;");
        b.row("fault(what) without", x, (y, v) -> y.fault(v), -1, -1, 0, -1, -1);
        Check.read(x, ";");
        b.row("fault(what) at place 0", x, (y, v) -> y.fault(v), -1, -1, 1, 0, -1);
        Check.read(x, "");
        Check.read(x, "");
        Check.read(x, "lose 9;");
        Check.read(x, "");
        Check.read(x, "lose 9;");
        b.row("fault(what), 4 being there: that of the latest that was read", x, (y, v) -> y.fault(v), -1, -1, 0, -1, -1);
        b.outside("fault", (y, v) -> y.fault(v), 0, 1, -1);
    }

    private static void by() {
        b.of(8, "THE TEXT (NONE: none): true. False for others.");
        HeadServo x = new HeadServo();
        b.due("by(NONE) by no TEXTS", x.by(-1), true);
        b.refused("by(0) by no TEXTS", y -> { }, y -> Boundary.n(y.by(0)), 0);
        Check.read(x, "pulls 1;");
        b.due("by(0) by one TEXT", x.by(0), true);
        b.due("by(1) by one TEXT", x.by(1), false);
        b.due("about(1)", x.about(1), 0);
        b.due("by(NONE)", x.by(-1), true);
        b.due("about(1) then", x.about(1), -1);
        // Two TEXTS are there.
        b.outside("by", (y, v) -> Boundary.n(y.by(v)), -1, 1, 0);
        b.of(18, "THE TEXT (told; at first none) rules.");
        HeadServo y = new HeadServo();
        Check.read(y, "pulls 5;");
        b.due("pulls() ahead of by", y.pulls(), 0);
        y.by(0);
        b.due("pulls() by it", y.pulls(), 5);
        y.by(1);
        b.due("pulls() behind a by that was refused", y.pulls(), 5);
        y.by(-1);
        b.due("pulls() by none", y.pulls(), 0);
    }

    private static void tapeLength() {
        b.of(6, "of up to 300 bytes");
        for (int n : new int[] {299, 300}) {
            sound("pulls 3;" + times(" ", n - 15) + "lose 1;");
            reads(times(" ", n - 7) + "lose 8;", 2, n - 2);
            reads(times(" ", n - 6) + "lose 1", 1, n);
            reads("pulls 1" + times(" ", n - 7), 1, n);
            reads(times(";", n), 1, 0);
            sound(times(" ", n));
            sound("day " + times("0", n - 7) + "60;");
            reads("day " + times("0", n - 7) + "61;", 2, 4);
        }
        HeadServo x = new HeadServo();
        b.due("text() of 300 bytes", Check.read(x, "pulls 1" + times("+1", 142) + "+0-140;"), 0);
        x.by(0);
        b.due("pulls() by 300 bytes", x.pulls(), 3);
    }

    private static boolean isLetter(int sign) {
        return sign >= 97 && sign <= 122 || sign >= 65 && sign <= 90;
    }

    private static boolean isDigit(int sign) {
        return sign >= 48 && sign <= 57;
    }

    private static void tokensByByte() {
        b.of(7, "TOKENS, blanks (32, 10) aside: letters a .. z, A .. Z one behind the other (one TOKEN), digits likewise (NUMBERS, 0 .. 9999), <= >= < > = # + - * / ( ) ; (the longest).");
        for (int sign = 0; sign < 256; sign++) {
            String one = "" + (char) sign;
            boolean blank = sign == 32 || sign == 10;
            reads(one, blank ? 0 : 1, blank ? -1 : 0);
            if (blank || sign >= 48 && sign <= 53) sound("day" + one + "1;");
            else if (isDigit(sign)) reads("day" + one + "1;", 2, 3);
            else reads("day" + one + "1;", 1, isLetter(sign) ? 0 : 3);
            if (blank) sound("lose 7" + one + ";");
            else if (isDigit(sign)) reads("lose 7" + one + ";", 2, 5);
            else reads("lose 7" + one + ";", 1, sign == ';' ? 7 : 6);
            if (blank) sound("write" + one + ";" + one);
            else reads("write" + one + ";", 1, isLetter(sign) ? 0 : sign == ';' ? 6 : 5);
            boolean joins = isDigit(sign) || "+-*/".indexOf(sign) >= 0;
            if (joins) sound("pulls 1" + one + "1;");
            else reads("pulls 1" + one + "1;", 1, blank || sign == ';' ? 8 : 7);
            boolean asks = "<>=#".indexOf(sign) >= 0;
            if (asks) sound("pulls if 1" + one + "1 then 1 else 2 end;");
            boolean opens = "<>".indexOf(sign) >= 0;
            if (opens || isDigit(sign)) sound("pulls if 1" + one + "=1 then 1 else 2 end;");
            else if (blank) sound("pulls if 1" + one + "=1 then 1 else 2 end;");
            else if (!joins) reads("pulls if 1" + one + "=1 then 1 else 2 end;", 1, asks ? 11 : 10);
            else reads("pulls if 1" + one + "=1 then 1 else 2 end;", 1, 11);
        }
    }

    private static void tokensTogether() {
        b.of(7, "(the longest)");
        sound("pulls if 1<=2 then 3 else 4 end;");
        reads("pulls if 1< =2 then 3 else 4 end;", 1, 12);
        reads("pulls if 1>\n=2 then 3 else 4 end;", 1, 12);
        for (String sign : new String[] {"<=", ">="}) {
            // At the end of the tape, and at the end of one that is full, or has one byte less.
            reads("pulls if 1" + sign, 1, 12);
            reads("pulls if 1" + times(" ", 287) + sign, 1, 299);
            reads("pulls if 1" + times(" ", 288) + sign, 1, 300);
        }
        for (String sign : new String[] {"<", ">", "=", "#"}) {
            reads("pulls if 1" + sign, 1, 11);
            reads("pulls if 1" + times(" ", 289) + sign, 1, 300);
        }
        reads("pulls if 1=<2 then 3 else 4 end;", 1, 11);
        reads("pulls if 1<==2 then 3 else 4 end;", 1, 12);
        reads("pulls if 1<>2 then 3 else 4 end;", 1, 11);
        reads("pulls if 1==2 then 3 else 4 end;", 1, 11);
        sound("seek5;lose7;day1;write;wobble7by7;shake40;");
        sound("pulls-speed+if clock<1then 2else 3end;");
        reads("seek 5write;", 1, 6);
        reads("se ek 5;", 1, 0);
        reads("day 1 0;", 1, 6);
        reads("daya 1;", 1, 0);
        reads("Day 1;", 1, 0);
        reads("daY 1;", 1, 0);
        reads("da 1;", 1, 0);
        reads("dayday 1;", 1, 0);
        reads("pulls offspeed;", 1, 6);
        reads("pulls Z;", 1, 6);
        reads("pulls zz;", 1, 6);
        sound("\n\nday\n1\n;\n");
        sound("");
    }

    private static void clauses() {
        b.of(6, "{CLAUSE}, 24 at most");
        sound("");
        sound("write;");
        sound(times("write;", 23));
        sound(times("write;", 24));
        reads(times("write;", 25), 6, 144);
        HeadServo x = new HeadServo();
        Check.read(x, times("lose 1;", 23) + "lose 2;");
        b.due("played(0) of 24", x.played(0), -1);
        b.due("lost()", x.lost(), 6);
    }

    private static void lawClauses() {
        b.of(6, "pulls SUM ; or learns SUM ; (each once)");
        sound("pulls 1;");
        sound("learns 1;");
        sound("pulls 1;learns 2;");
        sound("learns 1;lose 1;pulls 2;");
        reads("pulls 1;pulls 1;", 4, 8);
        reads("learns 1;learns 1;", 4, 9);
        reads("pulls 1;learns 1;pulls 1;", 4, 17);
        reads("pulls;", 1, 5);
        reads("learns;", 1, 6);
        reads("pulls 1", 1, 7);
        reads("learns 1", 1, 8);
    }

    private static void scriptClauses() {
        b.of(6, "wobble NUMBER by NUMBER ; or lose NUMBER ; or seek NUMBER ; or shake NUMBER ; or write ; or day NUMBER ;");
        reads("wobble", 1, 6);
        reads("wobble 1", 1, 8);
        reads("wobble 1 by", 1, 11);
        reads("wobble 1 by 1", 1, 13);
        sound("wobble 1 by 1;");
        reads("wobble 1 1;", 1, 9);
        reads("wobble by 1;", 1, 7);
        reads("wobble 1 by by 1;", 1, 12);
        reads("wobble 1 by -1;", 1, 12);
        for (String word : new String[] {"lose", "seek", "shake", "day"}) {
            int n = word.length();
            reads(word, 1, n);
            reads(word + " 1", 1, n + 2);
            reads(word + ";", 1, n);
            reads(word + " -1;", 1, n + 1);
            reads(word + " (1);", 1, n + 1);
            reads(word + " speed;", 1, n + 1);
            reads(word + " 1 1;", 1, n + 3);
            sound(word + " 1;");
        }
        reads("write", 1, 5);
        reads("write 1;", 1, 6);
        reads("write;;", 1, 6);
        reads("by 1;", 1, 0);
        reads("1;", 1, 0);
    }

    private static void sums() {
        b.of(18, "SUM: PRODUCT {+ or - PRODUCT}. PRODUCT: ONE {* or / ONE}.");
        sum("1+2*3", 7);
        sum("2*3+1", 7);
        sum("(1+2)*3", 9);
        sum("8/4-1", 1);
        sum("- 2*3+1", -5);
        sum("-2*-3", 6);
        sum("1--2", 3);
        sum("curve 6+3", 6);
        sum("curve 6*2", 6);
        sum("-curve 6*2", -6);
        b.of(18, "From the left");
        sum("8-3-2", 3);
        sum("8-3+2", 7);
        sum("8/2/2", 2);
        sum("8/2*2", 8);
        sum("7/2*2", 6);
        sum("3*3/2", 4);
    }

    private static void curve() {
        b.of(18, "curve ONE (A CURVE of that far by a pull of 1; of one below 0 that of as far above, below 0; as of 1023, if it is farther)");
        int[] ways = {0, 1, 2, 3, 5, 6, 9, 10, 14, 15};
        int[] speeds = {0, 1, 1, 2, 2, 3, 3, 4, 4, 5};
        for (int i = 0; i < ways.length; i++) {
            sum("curve " + ways[i], speeds[i]);
            sum("curve -" + ways[i], -speeds[i]);
            sum("curve (0-" + ways[i] + ")", -speeds[i]);
        }
        // 44 from 990 on; by 1035 it would be 45.
        sum("curve 989-40", 3);
        for (int far : new int[] {990, 1022, 1023, 1024, 1034, 1035, 2080, 9999}) {
            sum("curve " + far + "-40", 4);
            sum("curve -" + far + "+40", -4);
        }
        sum("curve (9999*9999)-40", 4);
        sum("curve (0-9999*9999)+40", -4);
    }

    private static void learnt() {
        b.of(18, "learnt ONE (LEARNT of the SECTOR of that number; 0 for others)");
        HeadServo x = Heads.lose(Heads.at(10), 1, 2, 3, 4, 5, 6);
        x.wobble(7, 3);
        Heads.rule(x, "pulls 0;learns 16;");
        x.day(8);
        b.due("LEARNT of 0", x.of(0, 1), 3);
        b.due("LEARNT of 7", x.of(7, 1), 5);
        String[] asked = {"0", "7", "1", "6", "8", "-1", "9999", "(0-9999*9999)", "(9999*9999)"};
        int[] want = {3, 5, 0, 0, 0, 0, 0, 0, 0};
        x.image();
        for (int i = 0; i < asked.length; i++) {
            x.back();
            Heads.rule(x, "pulls learnt " + asked[i] + "+2;");
            b.due("learnt " + asked[i], x.pulls(), want[i] + 2);
        }
    }

    private static void choice(String asked, boolean so) {
        sum("if " + asked + " then 3 else 4 end", so ? 3 : 4);
        sum("if not " + asked + " then 3 else 4 end", so ? 4 : 3);
    }

    private static void choices() {
        b.of(18, "EITHER: BOTH {or BOTH}. BOTH: ASK {and ASK}. ASK: not ASK, or SUM one of < <= > >= = # (unlike) SUM.");
        String[] signs = {"<", "<=", ">", ">=", "=", "#"};
        boolean[][] so = {{true, false, false}, {true, true, false}, {false, false, true}, {false, true, true},
            {false, true, false}, {true, false, true}};
        for (int i = 0; i < signs.length; i++) {
            for (int left = 1; left <= 3; left++) {
                choice(left + signs[i] + "2", so[i][left - 1]);
                choice("-" + (4 - left) + signs[i] + "-2", so[i][left - 1]);
            }
        }
        for (int i = 0; i < 8; i++) {
            boolean p = (i & 1) != 0;
            boolean q = (i & 2) != 0;
            boolean r = (i & 4) != 0;
            String a = p ? "1<2" : "2<1";
            String c = q ? "1<2" : "2<1";
            String d = r ? "1<2" : "2<1";
            sum("if " + a + " or " + c + " then 3 else 4 end", p || q ? 3 : 4);
            sum("if " + a + " and " + c + " then 3 else 4 end", p && q ? 3 : 4);
            sum("if " + a + " or " + c + " and " + d + " then 3 else 4 end", p || q && r ? 3 : 4);
            sum("if " + a + " and " + c + " or " + d + " then 3 else 4 end", p && q || r ? 3 : 4);
            sum("if not " + a + " or " + c + " then 3 else 4 end", !p || q ? 3 : 4);
            sum("if not " + a + " and not not " + c + " then 3 else 4 end", !p && q ? 3 : 4);
        }
        sum("if if 1<2 then 5 else 6 end=5 then if 2<1 then 7 else 8 end else 9 end", 8);
        sum("if 2<1 then 1 else if 2<1 then 2 else if 1<2 then 3 else 4 end end end", 3);
    }

    private static void names() {
        b.of(18, "NAMES: clock, sector, speed, error, target in both; settled in pulls; off (OFF) in learns.");
        HeadServo x = Heads.still("pulls if clock=0 then 0-1 else 0 end;");
        x.seek(4);
        x.shake(20);
        x.day(8);
        x.lose(0);
        x.day(1);
        // CLOCK 9, SECTOR 1, SPEED -1, TARGET 4; PLACE was 20 at CLOCK 8: READ 21 less 72.
        String[] asked = {"clock", "sector", "speed", "error+51", "target", "settled+3", "settled"};
        x.image();
        int[] want = {9, 1, -1, 0, 4, 3, 0};
        for (int i = 0; i < asked.length; i++) {
            x.back();
            Heads.rule(x, "pulls " + asked[i] + ";");
            b.due("pulls() by " + asked[i], x.pulls(), want[i]);
        }
        sound("pulls settled+clock+sector+speed+error+target;");
        sound("learns off+clock+sector+speed+error+target;");
        reads("pulls off;", 5, 6);
        reads("learns settled;", 5, 7);
        reads("learns off;pulls off;", 5, 17);
        reads("pulls settled;learns settled;", 5, 21);
    }

    private static void cutAndZero() {
        b.of(18, "/ cuts towards 0, by 0 it is 0");
        for (int i = 0; i <= 9; i++) {
            sum(i + "/3", i / 3);
            sum("(0-" + i + ")/3", -(i / 3));
            sum(i + "/-3", -(i / 3));
            sum("(0-" + i + ")/-3", i / 3);
        }
        sum("0/5", 0);
        sum("5/0", 0);
        sum("0/0", 0);
        sum("-5/0", 0);
        sum("5/0+4", 4);
        sum("5/(3-3)", 0);
        sum("5/1", 5);
        sum("5/-1", -5);
    }

    private static void atMostMillion() {
        b.of(18, "what is above 1000000 (below the same less) is that, at each step");
        sum("999*1001-9999*100-94", 5);
        sum("1000*1000-9999*100-95", 5);
        sum("1000*1000-9999*100-96", 4);
        sum("101*9901-9999*100-95", 5);
        sum("1001*1000-9999*100-95", 5);
        sum("999*1001+1-9999*100-95", 5);
        sum("999*1001+2-9999*100-95", 5);
        sum("1000*1000+9999-9999*100-95", 5);
        sum("(0-999)*1001+9999*100+94", -5);
        sum("(0-1000)*1000+9999*100+95", -5);
        sum("(0-101)*9901+9999*100+95", -5);
        sum("(0-1001)*1000+9999*100+95", -5);
        sum("(0-999)*1001-1+9999*100+95", -5);
        sum("(0-999)*1001-2+9999*100+95", -5);
        sum("0-1000*1000-9999+9999*100+95", -5);
        sum("-(9999*9999)+9999*100+95", -5);
        sum("9999*9999-9999*9999", 0);
        sum("9999*9999/1000-995", 5);
        sum("9999*9999*9999/1000-995", 5);
        sum("9999*9999*(9999*9999)/1000-995", 5);
        sum("9999*9999*(0-9999*9999)/1000+995", -5);
        sum("(0-9999*9999)*(0-9999*9999)/1000-995", 5);
        sum("9999*9999-(0-9999*9999)-9999*100-95", 5);
    }

    private static void bothSides() {
        b.of(18, "or and and look at both sides always, of if just the SUM that is chosen is asked.");
        sum("if 1<2 or 5/0=0 then 3 else 5/0 end", 3);
        sum("if 2<1 and 5/0=0 then 5/0 else 4 end", 4);
        sum("2*if 1<2 then 3 else 4 end+1", 7);
        sum("2*if 2<1 then 3 else 4 end+1", 9);
        sum("if 1<2 then 3 else 4 end-if 2<1 then 5 else 6 end", -3);
    }

    private static void firstFault() {
        b.of(7, "FAULTS, the first as TOKENS are come to, at the TOKEN's first byte (of the end at the length), of one the least");
        reads("lose 8;lose", 2, 5);
        reads("lose 7;lose", 1, 11);
        reads("lose 7;lose ", 1, 12);
        reads("lose 7;lose \n", 1, 13);
        reads("lose 1", 1, 6);
        reads("lose   8;", 2, 7);
        reads("\n lose\n9;", 2, 7);
        reads("pulls   speedy;", 1, 8);
        reads("day 61 5;", 2, 4);
        reads("day 60 5;", 1, 7);
        // Of one TOKEN the least: it can't stand there (1), and is above 9999, opens a ninth, is of another CLAUSE.
        reads("pulls 1 10000;", 1, 8);
        reads("10000;", 1, 0);
        reads("wobble 1 10000;", 1, 9);
        reads("pulls ((((((((1(", 1, 15);
        reads("pulls ((((((((1 if", 1, 16);
        reads("pulls 1 off;", 1, 8);
        reads("learns 1 settled;", 1, 9);
        reads("day off;", 1, 4);
        reads(times("write;", 24) + "x;", 1, 144);
        reads(times("write;", 24) + ";", 1, 144);
        reads(times("write;", 24) + "10000;", 1, 144);
        reads("pulls 1;" + times("write;", 23) + "pulls 1;", 4, 146);
        reads("pulls 1;" + times("write;", 23) + "learns 1;", 6, 146);
        reads("pulls 1;" + times("write;", 22) + "pulls 1;write;", 4, 140);
    }

    private static void cannotStand() {
        b.of(7, "1 it can't stand there, or is none.");
        reads("pulls 1 2;", 1, 8);
        reads("pulls +1;", 1, 6);
        reads("pulls *1;", 1, 6);
        reads("pulls 1+;", 1, 8);
        reads("pulls 1*;", 1, 8);
        reads("pulls 1++1;", 1, 8);
        reads("pulls 1+*1;", 1, 8);
        sound("pulls 1+-1;");
        sound("pulls 1*-1;");
        reads("pulls ();", 1, 7);
        reads("pulls (1;", 1, 8);
        reads("pulls 1);", 1, 7);
        reads("pulls not 1<2;", 1, 6);
        reads("pulls 1<2;", 1, 7);
        reads("pulls if;", 1, 8);
        reads("pulls if 1 then 2 else 3 end;", 1, 11);
        reads("pulls if 1<2 2 else 3 end;", 1, 13);
        reads("pulls if 1<2 then else 3 end;", 1, 18);
        reads("pulls if 1<2 then 2 3 end;", 1, 20);
        reads("pulls if 1<2 then 2 end;", 1, 20);
        reads("pulls if 1<2 then 2 else end;", 1, 25);
        reads("pulls if 1<2 then 2 else 3;", 1, 26);
        reads("pulls if (1<2) then 2 else 3 end;", 1, 11);
        reads("pulls if 1<2<3 then 2 else 3 end;", 1, 12);
        reads("pulls if 1<2 or then 2 else 3 end;", 1, 16);
        reads("pulls if 1<2 and or 1<2 then 2 else 3 end;", 1, 17);
        reads("pulls if and 1<2 then 2 else 3 end;", 1, 9);
        reads("pulls if 1<not 2 then 2 else 3 end;", 1, 11);
        reads("pulls if not 1 then 2 else 3 end;", 1, 15);
        reads("pulls curve;", 1, 11);
        reads("pulls learnt;", 1, 12);
        reads("pulls curve *1;", 1, 12);
        reads("pulls -;", 1, 7);
        reads("pulls then;", 1, 6);
        reads("pulls pulls;", 1, 6);
        reads("pulls by;", 1, 6);
        reads("learns day;", 1, 7);
        reads("off;", 1, 0);
        reads("lose lose;", 1, 5);
        reads("lose 1;!", 1, 7);
        reads("lose 1;\u00e9", 1, 7);
        reads("pulls 1.5;", 1, 7);
    }

    private static void limits(String ahead, String behind, int low, int high) {
        int at = ahead.length();
        if (low > 0) reads(ahead + (low - 1) + behind, 2, at);
        sound(ahead + low + behind);
        sound(ahead + (low + 1) + behind);
        sound(ahead + (high - 1) + behind);
        sound(ahead + high + behind);
        sound(ahead + "000" + high + behind);
        reads(ahead + (high + 1) + behind, 2, at);
        reads(ahead + "000" + (high + 1) + behind, 2, at);
        reads(ahead + "9999" + behind, high == 9999 ? 0 : 2, high == 9999 ? -1 : at);
        for (String much : new String[] {"10000", "99999", "2147483648", "4294967296", "18446744073709551616"}) {
            reads(ahead + much + behind, 2, at);
        }
    }

    private static void numbers() {
        b.of(7, "2 a NUMBER that isn't one of those told (above 9999; SECTORS 0 .. 7, WOBBLES 0 .. 7, TRACKS 0 .. 63, of shake 1 .. 40, SAMPLES 1 .. 60).");
        limits("pulls ", ";", 0, 9999);
        limits("learns 1+", ";", 0, 9999);
        limits("pulls learnt ", ";", 0, 9999);
        limits("pulls curve ", ";", 0, 9999);
        limits("pulls if 1<", " then 1 else 2 end;", 0, 9999);
        limits("wobble ", " by 0;", 0, 7);
        limits("wobble 0 by ", ";", 0, 7);
        limits("lose ", ";", 0, 7);
        limits("seek ", ";", 0, 63);
        limits("shake ", ";", 1, 40);
        limits("day ", ";", 1, 60);
        HeadServo x = new HeadServo();
        Check.read(x, "wobble 0 by 7;wobble 7 by 1;lose 0;lose 7;seek 63;shake 40;day 60;");
        b.due("played(0)", x.played(0), -1);
        b.due("WOBBLE of 0", x.of(0, 0), 7);
        b.due("WOBBLE of 7", x.of(7, 0), 1);
        b.due("lost()", x.lost(), 129);
        b.due("TARGET", x.is(4), 63);
        b.due("shaken by", x.book(1, 2), 40);
        b.due("CLOCK", x.is(0), 60);
        HeadServo y = Check.ruled("pulls 9999-9995;");
        b.due("9999 is just that", y.pulls(), 4);
    }

    private static void depthOfOne() {
        b.of(7, "3 the 9th of ( not curve learnt if and - (of one ONE) that are open around one another (at it).");
        String[] openers = {"(", "-", "curve ", "learnt "};
        for (String opener : openers) {
            String close = opener.equals("(") ? ")" : "";
            for (String law : new String[] {"pulls ", "learns ", "pulls 1-", "pulls 1+2*"}) {
                int at = law.length() + 8 * opener.length();
                sound(law + times(opener, 7) + "1" + times(close, 7) + ";");
                sound(law + times(opener, 8) + "1" + times(close, 8) + ";");
                reads(law + times(opener, 9) + "1" + times(close, 9) + ";", 3, at);
                reads(law + times(opener, 10), 3, at);
            }
        }
        for (String ninth : new String[] {"(1)", "-1", "curve 1", "learnt 1", "if 1<2 then 1 else 2 end"}) {
            sound("pulls " + times("-", 7) + ninth + ";");
            reads("pulls " + times("-", 8) + ninth + ";", 3, 14);
            sound("pulls ((curve learnt -(1+if not 2*1" + "<2 then 1 else 2 end" + ")));");
            reads("pulls ((curve learnt -(1+if not " + ninth + "<2 then 1 else 2 end" + ")));", 3, 32);
        }
    }

    private static void depthOfIf() {
        b.of(7, "3 the 9th of ( not curve learnt if");
        String[][] shapes = {{"if 0<1 then ", "1", " else 0 end"}, {"if 0<1 then 1 else ", "1", " end"},
            {"if ", "1", "<2 then 1 else 2 end"}, {"if 1<", "2", " then 1 else 2 end"},
            {"if 0<1 or 1<", "2", " then 1 else 2 end"}, {"if 0<1 and 1<", "2", " then 1 else 2 end"}};
        for (String[] s : shapes) {
            for (int n = 7; n <= 9; n++) {
                String text = "pulls " + times(s[0], n) + s[1] + times(s[2], n) + ";";
                if (text.length() > 300) text = text.substring(0, 300);
                if (n <= 8) {
                    HeadServo x = new HeadServo();
                    Check.read(x, text);
                    b.due("fault(0) of [" + text + "]", x.fault(0) == 3, false);
                    if (text.endsWith(";")) b.due("fault(0) of [" + text + "], whole", x.fault(0), 0);
                } else {
                    reads(text, 3, 6 + 8 * s[0].length());
                }
            }
        }
        sound("pulls if " + times("not ", 6) + "1<2 then 1 else 2 end;");
        sound("pulls if " + times("not ", 7) + "1<2 then 1 else 2 end;");
        reads("pulls if " + times("not ", 8) + "1<2 then 1 else 2 end;", 3, 9 + 28);
        sound("pulls if 1<2 and " + times("not ", 7) + "1<2 then 1 else 2 end;");
        reads("pulls if 1<2 and " + times("not ", 8) + "1<2 then 1 else 2 end;", 3, 17 + 28);
        sound("pulls if not ((((((1))))))<2 then 1 else 2 end;");
        reads("pulls if not (((((((1)))))))<2 then 1 else 2 end;", 3, 19);
        sound("pulls if not 1<((((((2)))))) then 1 else 2 end;");
        reads("pulls if not 1<(((((((2))))))) then 1 else 2 end;", 3, 21);
    }

    private static void depthClosed() {
        b.of(7, "that are open around one another");
        String eight = times("(", 8) + "1" + times(")", 8);
        sound("pulls " + eight + "+" + eight + "*" + eight + ";");
        reads("pulls " + eight + "+(" + eight + ");", 3, 6 + 17 + 1 + 8);
        sound("pulls --------1---------1;");
        reads("pulls --------1----------1;", 3, 6 + 9 + 1 + 8);
        sound("pulls " + times("curve ", 8) + "1+" + times("curve ", 8) + "1;");
        sound("pulls " + times("learnt ", 8) + "1-" + times("learnt ", 8) + "1;");
        sound("pulls curve -(1)+" + eight + ";");
        sound("pulls " + eight + ";learns " + eight + ";");
        String seven = times("(", 7) + "1" + times(")", 7);
        sound("pulls if not 1<2 and " + seven + "<2 then " + seven + " else " + seven + " end+" + eight + ";");
        reads("pulls if not 1<2 and " + eight + "<2 then 1 else 2 end;", 3, 21 + 7);
        reads("pulls if 1<2 then " + eight + " else 2 end;", 3, 18 + 7);
        reads("pulls if 1<2 then 2 else " + eight + " end;", 3, 25 + 7);
        sound("pulls " + times("1-", 140) + "1;");
    }

    private static void secondTime() {
        b.of(7, "4 pulls, learns for the second time (at it).");
        reads("pulls 1;write;pulls", 4, 14);
        reads("learns 1; learns", 4, 10);
        reads("pulls 1;learns 1;learns 1;", 4, 17);
        reads("learns 1;pulls 1;learns 1;", 4, 17);
        sound("learns 1;pulls 1;");
        // One of another TEXT, or of one with a FAULT, isn't the first.
        HeadServo x = new HeadServo();
        Check.read(x, "pulls 1;learns 1;");
        b.due("text() of another with laws", Check.read(x, "pulls 2;learns 2;"), 1);
        Check.read(x, "pulls 3;learns 3;day");
        b.due("text() behind one with a FAULT", Check.read(x, "pulls 4;learns 4;"), 2);
        b.of(7, "5 a NAME that isn't of that CLAUSE (at it).");
        reads("pulls 1+off;", 5, 8);
        reads("pulls 1+(2*off);", 5, 11);
        reads("learns 1+settled;", 5, 9);
        reads("learns if settled", 5, 10);
        reads("pulls curve off;", 5, 12);
        reads("pulls off off;", 5, 6);
        sound("pulls settled;learns off;");
        sound("learns off;pulls settled;");
    }

    private static void clause25() {
        b.of(7, "6 the 25th CLAUSE (at its first TOKEN).");
        String ahead = times("lose 1;", 24);
        sound(ahead);
        for (String word : new String[] {"pulls", "learns", "wobble", "lose", "seek", "shake", "write", "day"}) {
            reads(ahead + "\n" + word + " ", 6, 169);
            sound(times("lose 1;", 23) + "write;");
        }
        reads(times("lose 1;", 23) + "lose 1", 1, 23 * 7 + 6);
        reads(times("lose 1;", 23) + "lose 8;lose 1;", 2, 23 * 7 + 5);
        reads("pulls 1;learns 1;" + times("write;", 22) + "write;", 6, 17 + 132);
        sound("pulls 1;learns 1;" + times("write;", 22));
    }

    private static void pullsLaw() {
        b.of(18, "pulls: -9 at least, 9 at most");
        for (int i = 7; i <= 11; i++) {
            sum("" + i, Math.min(i, 9));
            sum("-" + i, Math.max(-i, -9));
            HeadServo x = Heads.still("pulls " + i + ";");
            x.day(1);
            b.due("SPEED by " + i, x.is(3), Math.min(i, 9));
        }
        sum("9999*9999", 9);
        sum("0-9999*9999", -9);
        sum("0", 0);
    }

    private static HeadServo off(int error, String law) {
        // The middle of TRACK 2 is 40; the first draw reads one PLACE more.
        HeadServo x = Heads.at(39 + error);
        if (!law.isEmpty()) Heads.rule(x, law);
        x.seek(2);
        x.day(1);
        b.due("ERROR", x.is(5), error);
        return x;
    }

    private static void pullsWithout() {
        b.of(18, "without: A CURVE of ERROR turned (curve of - ERROR) less SPEED, -4 at least, 4 at most.");
        int[] errors = {0, 1, 2, 3, 5, 6, 9, 10, 14, 15, 20, 21};
        int[] speeds = {0, 1, 1, 2, 2, 3, 3, 4, 4, 4, 4, 4};
        for (String law : new String[] {"", "learns 0;", "lose 3;"}) {
            for (int i = 0; i < errors.length; i++) {
                b.due("SPEED by ERROR " + errors[i], off(errors[i], law).is(3), -speeds[i]);
                b.due("SPEED by ERROR -" + errors[i], off(-errors[i], law).is(3), speeds[i]);
            }
        }
        HeadServo x = Heads.still("pulls clock+3;");
        x.day(2);
        b.due("SPEED", x.is(3), 7);
        x.by(-1);
        b.due("pulls() by ERROR 0, SPEED 7", x.pulls(), -4);
        HeadServo y = Heads.still("pulls 0-4;");
        y.day(1);
        y.by(-1);
        b.due("pulls() by ERROR 0, SPEED -4", y.pulls(), 4);
        HeadServo z = Heads.still("pulls 0-3;");
        z.day(1);
        z.by(-1);
        b.due("pulls() by ERROR 0, SPEED -3", z.pulls(), 3);
        HeadServo v = off(-36, "pulls 5;");
        v.by(-1);
        b.due("pulls() by ERROR -36, SPEED 5", v.pulls(), 3);
    }

    private static void learnsLaw() {
        b.of(12, "learns: 0 at least, 16 at most; without: 4.");
        String[] laws = {"0-9999*9999", "0-1", "0", "1", "4", "15", "16", "17", "9999"};
        int[] want = {0, 0, 0, 1, 4, 15, 16, 16, 16};
        for (int i = 0; i < laws.length; i++) {
            b.due("LEARNT by " + laws[i], off(16, "learns " + laws[i] + ";").of(0, 1), want[i]);
            b.due("LEARNT below by " + laws[i], off(-16, "learns " + laws[i] + ";").of(0, 1), -want[i]);
        }
        b.due("LEARNT without THE TEXT", off(16, "").of(0, 1), 4);
        b.due("LEARNT by a TEXT without", off(16, "pulls 0;").of(0, 1), 4);
        b.due("LEARNT by an empty TEXT", off(-16, " ").of(0, 1), -4);
    }

    private static void plays(String text, HeadServo x, int want) {
        int number = Check.read(x, text);
        b.due("played of [" + text + "]", x.played(number), want);
    }

    private static void played() {
        b.of(13, "PLAYED by a TEXT: NONE: all is done; else the number of the CLAUSE that can't be. -2 for others.");
        b.refused("played(0) by no TEXTS", y -> { }, y -> y.played(0), -2);
        b.refused("played(NONE)", y -> y.played(-1), -2);
        b.outside("played", (y, v) -> y.played(v), 0, 1, -2);
        plays("", Heads.still(), -1);
        plays("pulls 1;learns 1;", Heads.still(), -1);
        plays("write;", Heads.still(), 0);
        plays("day 2;write;", Heads.still(), 1);
        plays("day 3;write;", Heads.still(), -1);
        plays("seek 0;", Heads.still(), 0);
        plays("seek 1;seek 0;seek 0;", Heads.still(), 2);
        plays("seek 63;", Heads.still(), -1);
        plays(times("lose 1;", 23) + "write;", Heads.still(), 23);
        plays("write;" + times("lose 1;", 23), Heads.still(), 0);
        b.of(13, "its CLAUSES but laws, in their order, as by hand; one that can't be ends it (of so many SAMPLES those that can pass do): its number among all CLAUSES (from 0); what was done stays.");
        plays("pulls 1;learns 2;seek 0;", Heads.still(), 2);
        plays("pulls 1;seek 1;learns 2;seek 1;", Heads.still(), 3);
        HeadServo x = Heads.still();
        Check.read(x, "pulls 5;seek 7;wobble 1 by 2;lose 6;shake 3;day 4;write;write;seek 7;shake 9;lose 2;");
        b.due("played(0)", x.played(0), 8);
        b.row("is(what) stays", x, (y, v) -> y.is(v), 0, 4, 467, 11, 0, 7, 0, 4, 2, 0);
        b.due("WOBBLE stays", x.of(1, 0), 2);
        b.due("lost() stays", x.lost(), 191);
        b.due("THE TEXT is none", x.about(1), -1);
        String script = "pulls 5;seek 7;wobble 1 by 2;lose 6;shake 3;day 4;write;write;lose 7;seek 7;shake 9;";
        b.alike("played as by hand", y -> {
            twoTexts(y, script);
            b.due("played(0) of two TEXTS", y.played(0), 9);
        }, y -> {
            twoTexts(y, script);
            y.seek(7);
            y.wobble(1, 2);
            y.lose(6);
            y.shake(3);
            y.day(4);
            b.due("write() by hand", y.write(), 7);
            b.due("write() by hand again", y.write(), 7);
            y.lose(7);
        });
    }

    private static void twoTexts(HeadServo x, String script) {
        Heads.lose(x, 0, 1, 2, 3, 4, 5, 6, 7);
        Check.read(x, script);
        Heads.rule(x, "pulls 0;");
    }

    private static void playedToTheEnd() {
        b.of(13, "(of so many SAMPLES those that can pass do)");
        for (int left = 0; left <= 3; left++) {
            for (int days = 1; days <= 4; days++) {
                HeadServo x = Heads.pass(Heads.still(), 9999 - left);
                Check.read(x, "lose 0;day " + days + ";seek 5;");
                b.due("played(0), " + days + " of " + left, x.played(0), days <= left ? -1 : 1);
                b.due("CLOCK", x.is(0), 9999 - left + Math.min(days, left));
                b.due("TARGET", x.is(4), days <= left ? 5 : 0);
                b.due("lost()", x.lost(), 254);
            }
        }
        HeadServo x = Heads.pass(Heads.still(), 9940);
        Check.read(x, "day 60;");
        b.due("played(0), 60 of 59", x.played(0), 0);
        b.due("CLOCK", x.is(0), 9999);
        HeadServo y = Heads.pass(Heads.still(), 9939);
        Check.read(y, "day 60;");
        b.due("played(0), 60 of 60", y.played(0), -1);
        b.due("CLOCK then", y.is(0), 9999);
    }
}
