/** A head is sent to a track, settles over it and writes; the writing is taken back. */
public final class FirstSeek {
    public static void main(String[] args) {
        HeadServo head = new HeadServo();
        head.wobble(2, 5);      // sector 2 wobbles by 5
        head.lose(6);           // sector 6 is lost
        int samples = head.till(10);
        show("samples till it would be settled over track 10", samples);
        show("sought", head.seek(10));
        show("written at once (NONE: the gate is shut)", head.write());
        show("settled behind so many samples", head.day(samples));
        show("written over track", head.write());
        show("place", head.is(2));
        show("lines in the book", head.book(HeadServo.NONE, 0));
        show("kind of the latest (2: written)", head.book(2, 1));
        show("how often it was written", head.is(7));
        show("steps that can be taken back yet, behind the writing", head.undo());
        show("how often it was written now", head.is(7));
    }

    private static void show(String what, Object answer) {
        System.out.println(what + ": " + answer);
    }
}
