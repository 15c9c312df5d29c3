/** Promises 1 to 8, and the language of TEXTS (II). */
public final class ToldTest {
    private static final Check c = new Check();

    public static void main(String[] args) {
        anew();
        wobble();
        lose();
        feed();
        end();
        text();
        fault();
        faultsByNumber();
        faultsTogether();
        by();
        fullTapes();
        sums();
        choices();
        c.end();
    }

    private static void anew() {
        HeadServo x = new HeadServo();
        int[] want = {0, 467, 8, 0, 0, 0, 0, 0, 0};
        for (int i = 0; i < want.length; i++) c.due("is(" + i + ") anew", x.is(i), want[i]);
        int[] about = {0, -1, 0, 0, 0, 0};
        for (int i = 0; i < about.length; i++) c.due("about(" + i + ") anew", x.about(i), about[i]);
        c.due("book(-1, 0) anew", x.book(-1, 0), 0);
        c.due("lost() anew", x.lost(), 0);
        for (int s = 0; s < 8; s++) {
            for (int i = 0; i < 3; i++) c.due("of(" + s + ", " + i + ") anew", x.of(s, i), 0);
        }
        x.seek(5);
        x.wobble(1, 3);
        x.day(4);
        c.due("back() to what was new", x.back(), 0);
        c.due("is(4) then", x.is(4), 0);
        c.due("is(1) then", x.is(1), 467);
        c.due("of(1, 0) then", x.of(1, 0), 0);
        c.due("about(2) then", x.about(2), 0);
        c.due("NONE", HeadServo.NONE, -1);
    }

    private static void wobble() {
        HeadServo x = new HeadServo();
        c.due("wobble(0, 7)", x.wobble(0, 7), true);
        c.due("wobble(7, -7)", x.wobble(7, -7), true);
        c.due("of(0, 0)", x.of(0, 0), 7);
        c.due("of(7, 0)", x.of(7, 0), -7);
        c.due("wobble(0, 8)", x.wobble(0, 8), false);
        c.due("wobble(0, -8)", x.wobble(0, -8), false);
        c.due("wobble(-1, 0)", x.wobble(-1, 0), false);
        c.due("wobble(8, 0)", x.wobble(8, 0), false);
        c.due("wobble(least, least)", x.wobble(Integer.MIN_VALUE, Integer.MIN_VALUE), false);
        c.due("of(0, 0) as before", x.of(0, 0), 7);
        c.due("wobble(0, 7) again", x.wobble(0, 7), true);
        c.due("no STEP", x.about(2), 0);
    }

    private static void lose() {
        HeadServo x = new HeadServo();
        c.due("lose(0)", x.lose(0), true);
        c.due("lose(7)", x.lose(7), true);
        c.due("lost()", x.lost(), 129);
        c.due("lose(0) again", x.lose(0), true);
        c.due("lost() then", x.lost(), 128);
        c.due("lose(8)", x.lose(8), false);
        c.due("lose(-1)", x.lose(-1), false);
        c.due("lost() still", x.lost(), 128);
        c.due("no STEP", x.about(2), 0);
    }

    private static void feed() {
        HeadServo x = new HeadServo();
        for (int i = 1; i <= 14; i++) c.due("feed " + i, x.feed(0, 0, 0, 0, 0), 20 * i);
        c.due("end(279)", x.end(279), 279);
        c.due("feed to 299", x.feed(0, 0, 0, 0, 0), 299);
        c.due("feed beyond", x.feed(0, 0, 0, 0, 0), -1);
        c.due("about(5)", x.about(5), 299);
        x.end(280);
        c.due("feed to 300", x.feed(0, 0, 0, 0, 0), 300);
        c.due("feed beyond 300", x.feed(0, 0, 0, 0, 0), -1);
        x.end(281);
        c.due("feed at 281", x.feed(0, 0, 0, 0, 0), -1);
        c.due("about(5) at 281", x.about(5), 281);
        // "pulls 7;wobble 7 by 0;lose 1;" in two pieces: the highest byte of each first.
        x.end(0);
        c.due("feed a text", x.feed(0x70756c6c, 0x7320373b, 0x776f6262, 0x6c652037, 0x20627920), 20);
        c.due("feed its end", x.feed(0x303b6c6f, 0x73652031, 0x3b000000, 0, 0xff000000), 40);
        x.end(29);
        c.due("text()", x.text(), 0);
        x.by(0);
        c.due("pulls() by it", x.pulls(), 7);
        c.due("played(0)", x.played(0), -1);
        c.due("lost() then", x.lost(), 2);
    }

    private static void end() {
        HeadServo x = new HeadServo();
        c.due("end(0)", x.end(0), 0);
        c.due("end(1) of none", x.end(1), -1);
        c.due("end(-1)", x.end(-1), -1);
        x.feed(1, 2, 3, 4, 5);
        c.due("end(21)", x.end(21), -1);
        c.due("about(5)", x.about(5), 20);
        c.due("end(20)", x.end(20), 20);
        c.due("end(7)", x.end(7), 7);
        c.due("end(8)", x.end(8), -1);
        c.due("end(least)", x.end(Integer.MIN_VALUE), -1);
        c.due("about(5) then", x.about(5), 7);
    }

    private static void text() {
        HeadServo x = new HeadServo();
        c.due("text() of nothing", x.text(), 0);
        c.due("a second", Check.read(x, "lose 1;"), 1);
        c.due("the tape is empty then", x.about(5), 0);
        c.due("one with a FAULT", Check.read(x, "lose 1"), -1);
        c.due("the tape is empty then, too", x.about(5), 0);
        c.due("about(0)", x.about(0), 2);
        c.due("a third", Check.read(x, "pulls 3;"), 2);
        c.due("a fourth", Check.read(x, "pulls 4;"), 3);
        c.due("a fifth", Check.read(x, "pulls 5"), -1);
        c.due("the tape stays", x.about(5), 7);
        c.due("the latest read is the fourth", x.fault(0), 0);
        c.due("about(0) then", x.about(0), 4);
        x.by(3);
        c.due("pulls() by the fourth", x.pulls(), 4);
        x.by(2);
        c.due("pulls() by the third", x.pulls(), 3);
    }

    private static void fault() {
        HeadServo x = new HeadServo();
        c.due("fault(0) ahead of any", x.fault(0), -1);
        c.due("fault(1) ahead of any", x.fault(1), -1);
        Check.read(x, "lose 9;");
        c.due("fault(0)", x.fault(0), 2);
        c.due("fault(1)", x.fault(1), 5);
        c.due("fault(2)", x.fault(2), -1);
        c.due("fault(-1)", x.fault(-1), -1);
        Check.read(x, "lose 7;");
        c.due("fault(0) without", x.fault(0), 0);
        c.due("fault(1) without", x.fault(1), -1);
    }

    private static void faultsByNumber() {
        c.fault("", 0, -1);
        c.fault(" \n ", 0, -1);
        c.fault("day", 1, 3);
        c.fault("day ", 1, 4);
        c.fault(" day60;", 0, -1);
        c.fault("day 0;", 2, 4);
        c.fault("day 61;", 2, 4);
        c.fault("\tday 1;", 1, 0);
        c.fault("day\r1;", 1, 3);
        c.fault("day 1;\u00ff", 1, 6);
        c.fault("day 1;\0", 1, 6);
        c.fault("Day 1;", 1, 0);
        c.fault("days 1;", 1, 0);
        c.fault("da 1;", 1, 0);
        c.fault("day -1;", 1, 4);
        c.fault("day 0001;", 0, -1);
        c.fault("day 99999999999999999999;", 2, 4);
        c.fault("shake 0;", 2, 6);
        c.fault("shake 1;shake 40;", 0, -1);
        c.fault("shake 41;", 2, 6);
        c.fault("seek 63;", 0, -1);
        c.fault("seek 64;", 2, 5);
        c.fault("lose 7;", 0, -1);
        c.fault("lose 8;", 2, 5);
        c.fault("wobble 7 by 7;", 0, -1);
        c.fault("wobble 8 by 7;", 2, 7);
        c.fault("wobble 7 by 8;", 2, 12);
        c.fault("wobble 7 7;", 1, 9);
        c.fault("wobble by 7;", 1, 7);
        c.fault("write;", 0, -1);
        c.fault("write", 1, 5);
        c.fault("pulls 9999;", 0, -1);
        c.fault("pulls 10000;", 2, 6);
        c.fault("pulls 00009999;", 0, -1);
        c.fault("pulls 1;learns 1;pulls 2;", 4, 17);
        c.fault("learns 1;lose 1;learns 2;", 4, 16);
        c.fault("pulls settled+clock+sector+speed+error+target;", 0, -1);
        c.fault("learns off+clock+sector+speed+error+target;", 0, -1);
        c.fault("pulls 1+off;", 5, 8);
        c.fault("learns settled;", 5, 7);
        c.fault("pulls place;", 1, 6);
        c.fault("pulls ;", 1, 6);
        c.fault("pulls 1 2;", 1, 8);
        c.fault("pulls (1;", 1, 8);
        c.fault("pulls 1);", 1, 7);
        c.fault("pulls 1+;", 1, 8);
        c.fault("pulls +1;", 1, 6);
        c.fault("pulls not 1<2;", 1, 6);
        c.fault("pulls if 1<2 then 3 else 4 end;", 0, -1);
        c.fault("pulls if 1<2 then 3 end;", 1, 20);
        c.fault("pulls if 1<2<3 then 3 else 4 end;", 1, 12);
        c.fault("pulls if (1<2) then 3 else 4 end;", 1, 11);
        c.fault("pulls if 1< =2 then 3 else 4 end;", 1, 12);
        c.fault("pulls if 1<>2 then 3 else 4 end;", 1, 11);
        c.fault("pulls if 1<=2 and not 3>=4 or 5#6 then 3 else 4 end;", 0, -1);
        c.fault("pulls if 1 then 3 else 4 end;", 1, 11);
        c.fault("pulls speed", 1, 11);
        StringBuilder b = new StringBuilder();
        for (int i = 0; i < 24; i++) b.append("write;");
        c.fault(b.toString(), 0, -1);
        c.fault(b + " write;", 6, 145);
    }

    private static void faultsTogether() {
        StringBuilder b = new StringBuilder("pulls 1;");
        for (int i = 1; i < 24; i++) b.append("write;");
        c.fault(b + "pulls 2;", 4, 146);
        c.fault(b + "learns 2;", 6, 146);
        c.fault(b + "speed;", 1, 146);
        c.fault(b + ";", 1, 146);
        c.fault("pulls ((((((((1))))))));", 0, -1);
        c.fault("pulls (((((((((1)))))))));", 3, 14);
        c.fault("pulls --------1;", 0, -1);
        c.fault("pulls ---------1;", 3, 14);
        c.fault("pulls 1---------1;", 0, -1);
        c.fault("pulls 1----------1;", 3, 16);
        c.fault("pulls curve learnt -(curve learnt -(1));", 0, -1);
        c.fault("pulls curve learnt -(curve learnt -((1))));", 3, 36);
        c.fault("pulls curve learnt -(curve learnt -(1)))+((((((((2))))))));", 1, 39);
        c.fault("pulls curve learnt -(curve learnt -(1))+((((((((2))))))));", 0, -1);
        c.fault("pulls if not not not not not not not 1<2 then ((((((1)))))) else 2 end;", 0, -1);
        c.fault("pulls if not not not not not not not not 1<2 then 1 else 2 end;", 3, 37);
        c.fault("pulls if 1<2 then 1 else (((((((((2))))))))) end;", 3, 32);
        c.fault("pulls if 1<2 then 1 else 2 end+((((((((2))))))));", 0, -1);
        c.fault("learns (((((((if 1<2 then off else if", 3, 35);
        c.fault("pulls 1 ((((((((((2", 1, 8);
        c.fault("pulls 1 10000;", 1, 8);
        c.fault("day 61 5;day", 2, 4);
        c.fault("pulls off off;", 5, 6);
        c.fault("off;", 1, 0);
    }

    private static String times(String what, int n) {
        StringBuilder b = new StringBuilder();
        for (int i = 0; i < n; i++) b.append(what);
        return b.toString();
    }

    private static void fullTapes() {
        c.fault(times(";", 300), 1, 0);
        c.fault(times(" ", 300), 0, -1);
        c.fault(times("9", 300), 1, 0);
        c.fault("day " + times("9", 296), 2, 4);
        c.fault("day " + times("0", 294) + "7;", 0, -1);
        c.fault(times("a", 300), 1, 0);
        c.fault("pulls " + times("-", 294), 3, 14);
        c.fault("pulls 1" + times("+1", 146) + ";", 0, -1);
        c.fault("pulls 1" + times("+1", 146) + "+", 1, 300);
        c.fault("pulls 1;learns 1" + times("*1", 141) + " ;", 0, -1);
        c.fault("pulls 1;learns 1" + times("*1", 141) + " <", 1, 299);
        c.pulls("1" + times("+1", 146), 9);
        c.pulls("140" + times("-1", 145), -5);
        c.fault("pulls if 1<=", 1, 12);
        c.fault("pulls if 1>=", 1, 12);
        c.fault("pulls if 1" + times(" ", 288) + "<=", 1, 300);
        cut("write;", 4, 1, 0);
        cut("day 61;", 5, 1, 5);
        cut("pulls if 1<=2", 11, 1, 11);
        cut("lose 1;lose 1", 7, 0, -1);
        // What was read of TEXTS with a FAULT is no part of the next one.
        HeadServo x = new HeadServo();
        for (int i = 0; i < 5; i++) {
            c.due("one with a FAULT", Check.read(x, "lose 1;pulls 1" + times("+1", 140) + ";learns 1+"), -1);
        }
        c.due("one without", Check.read(x, "learns 2;lose 2;"), 0);
        x.by(0);
        c.due("pulls() without", x.pulls(), 0);
        c.due("played(0)", x.played(0), -1);
        c.due("lost()", x.lost(), 4);
        c.due("another", Check.read(x, "pulls 140" + times("-1", 138) + ";"), 1);
        x.by(1);
        c.due("pulls() by it", x.pulls(), 2);
    }

    /** A tape that is cut short: the bytes behind are none of it. */
    private static void cut(String text, int length, int number, int place) {
        HeadServo x = new HeadServo();
        Check.feed(x, text);
        x.end(length);
        x.text();
        c.due("fault(0) of [" + text + "] cut to " + length, x.fault(0), number);
        c.due("fault(1) of [" + text + "] cut to " + length, x.fault(1), place);
    }

    private static void by() {
        HeadServo x = new HeadServo();
        c.due("by(NONE)", x.by(-1), true);
        c.due("by(0) of none", x.by(0), false);
        Check.read(x, "pulls 5;");
        c.due("by(0)", x.by(0), true);
        c.due("about(1)", x.about(1), 0);
        c.due("pulls()", x.pulls(), 5);
        c.due("by(1)", x.by(1), false);
        c.due("by(-2)", x.by(-2), false);
        c.due("about(1) still", x.about(1), 0);
        c.due("by(NONE) then", x.by(-1), true);
        c.due("about(1) then", x.about(1), -1);
        c.due("pulls() then", x.pulls(), 0);
    }

    private static void sums() {
        c.pulls("1+2*3", 7);
        c.pulls("8-3-2", 3);
        c.pulls("8/2/2", 2);
        c.pulls("7/2*2", 6);
        c.pulls("(1+2)*3", 9);
        c.pulls("-7/2", -3);
        c.pulls("0-7/2", -3);
        c.pulls("7/-2", -3);
        c.pulls("- 2*3+1", -5);
        c.pulls("5/0", 0);
        c.pulls("5/0+4", 4);
        c.pulls("10", 9);
        c.pulls("0-10", -9);
        c.pulls("--4", 4);
        // 9999 * 9999 is 1000000; 1000000 / 250000 is 4, and it is held at each step.
        c.pulls("9999*9999/(500*500)", 4);
        c.pulls("(0-9999)*9999/(500*500)", -4);
        c.pulls("9999*9999-9999*9999", 0);
        c.pulls("9999*9999+9999*9999-9999*100+100", 9);
        c.pulls("9999*9999+9999-9999*100-99*1", 1);
        c.pulls("curve 0", 0);
        c.pulls("curve 10", 4);
        c.pulls("curve 9", 3);
        c.pulls("curve -10", -4);
        c.pulls("curve (0-9)", -3);
        c.pulls("curve 9999-40", 4);
        c.pulls("curve 1023-40", 4);
        c.pulls("curve 989-40", 3);
        c.pulls("curve -9999+40", -4);
        c.pulls("curve 6+3", 6);
        c.pulls("learnt 0", 0);
        c.pulls("learnt 8", 0);
        c.pulls("learnt -1", 0);
        c.pulls("clock+sector+speed+error+target+settled", 0);
        HeadServo x = Check.ruled("pulls learnt 3;");
        x.lose(0);
        x.lose(1);
        x.lose(2);
        x.wobble(3, 7);
        // X 467: READ 8 + 7 + 2 - 1 = 16, OFF 8, LEARNT 2.
        x.day(4);
        c.due("learnt 3", x.pulls(), 2);
        HeadServo y = Check.ruled("pulls clock-sector;");
        y.day(8);
        c.due("clock 8 less sector 0", y.pulls(), 8);
        y.day(1);
        c.due("clock 9 less sector 1", y.pulls(), 8);
        HeadServo z = Check.ruled("pulls target;");
        z.seek(6);
        c.due("target", z.pulls(), 6);
    }

    private static void choices() {
        c.pulls("if 1<2 then 3 else 4 end", 3);
        c.pulls("if 2<2 then 3 else 4 end", 4);
        c.pulls("if 2<=2 then 3 else 4 end", 3);
        c.pulls("if 3<=2 then 3 else 4 end", 4);
        c.pulls("if 3>2 then 3 else 4 end", 3);
        c.pulls("if 2>2 then 3 else 4 end", 4);
        c.pulls("if 2>=2 then 3 else 4 end", 3);
        c.pulls("if 1>=2 then 3 else 4 end", 4);
        c.pulls("if 2=2 then 3 else 4 end", 3);
        c.pulls("if 1=2 then 3 else 4 end", 4);
        c.pulls("if 1#2 then 3 else 4 end", 3);
        c.pulls("if 2#2 then 3 else 4 end", 4);
        c.pulls("if not 1<2 then 3 else 4 end", 4);
        c.pulls("if not not 1<2 then 3 else 4 end", 3);
        c.pulls("if not 1<2 or 1<2 then 3 else 4 end", 3);
        c.pulls("if 1<2 or 1<2 and 2<1 then 3 else 4 end", 3);
        c.pulls("if 2<1 and 1<2 or 1<2 then 3 else 4 end", 3);
        c.pulls("if 1<2 and 2<1 then 3 else 4 end", 4);
        c.pulls("if 2<1 or 2<1 then 3 else 4 end", 4);
        c.pulls("1+if 1<2 then 3+1 else 4 end*2", 9);
        c.pulls("1+if 2<1 then 3+1 else 2 end*2", 5);
        c.pulls("if if 1<2 then 5 else 6 end=5 then if 2<1 then 7 else 8 end else 9 end", 8);
        c.pulls("if 1+1<2+1 then 3 else 4 end", 3);
        for (String so : new String[] {"1<2", "1<=2", "2>1", "2>=1", "2=2", "1#2"}) {
            c.pulls("if " + so + " and 1<2 then 3 else 4 end", 3);
            c.pulls("if 1<2 and " + so + " and 2=2 then 3 else 4 end", 3);
            c.pulls("if 2<1 or " + so + " then 3 else 4 end", 3);
            c.pulls("if not " + so + " then 3 else 4 end", 4);
            c.pulls("if not not " + so + " then 3 else 4 end", 3);
            c.pulls("if not " + so + " or 2<1 then 3 else 4 end", 4);
        }
    }
}
