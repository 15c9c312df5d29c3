/** A law and a script are fed as bytes, ended, read and used; one with a fault is told, too. */
public final class LawAndScript {
    public static void main(String[] args) {
        HeadServo head = new HeadServo();

        int law = read(head, "pulls curve - error - speed; learns if off < 9 and -9 < off then 4 else 0 end;");
        int script = read(head, "wobble 3 by 6; seek 20; day 33; write; seek 20; day 1;");
        show("the law's number", law);
        show("the script's number", script);

        show("the law rules", head.by(law));
        show("the clause of the script that can't be", head.played(script));
        show("how often it was written", head.is(7));
        show("learnt of sector 3", head.of(3, 1));

        show("a text with a fault (NONE)", read(head, "pulls error * ;"));
        show("its fault (1: a token can't stand there)", head.fault(0));
        show("at byte", head.fault(1));

        show("no text rules any more", head.by(HeadServo.NONE));
    }

    /** Fed twenty bytes a call, ended behind its last byte, read: its number, or NONE. */
    private static int read(HeadServo head, String text) {
        head.end(0);
        for (int i = 0; i < text.length(); i += 20) {
            head.feed(four(text, i), four(text, i + 4), four(text, i + 8), four(text, i + 12), four(text, i + 16));
        }
        head.end(text.length());
        return head.text();
    }

    /** Four bytes, the highest first; blanks behind the text's end, which end(n) cuts off. */
    private static int four(String text, int from) {
        int four = 0;
        for (int i = from; i < from + 4; i++) {
            four = four << 8 | (i < text.length() ? text.charAt(i) : ' ');
        }
        return four;
    }

    private static void show(String what, Object answer) {
        System.out.println(what + ": " + answer);
    }
}
