/** Objects brought to where a test wants them. */
final class Heads {
    private Heads() {
    }

    /** All SECTORS LOST: no draws, and ERROR stays 0. */
    static HeadServo still() {
        HeadServo x = new HeadServo();
        for (int s = 0; s < 8; s++) x.lose(s);
        return x;
    }

    /** The same, ruled by a TEXT. */
    static HeadServo still(String text) {
        HeadServo x = still();
        rule(x, text);
        return x;
    }

    static void rule(HeadServo x, String text) {
        x.by(Check.read(x, text));
    }

    /** Shaken to a PLACE. */
    static HeadServo shaken(HeadServo x, int place) {
        for (int i = 0; i < 30 && x.is(2) != place; i++) {
            x.shake(Math.max(-40, Math.min(40, place - x.is(2))));
        }
        return x;
    }

    static HeadServo at(int place) {
        return shaken(new HeadServo(), place);
    }

    static HeadServo atTrack(int track) {
        return at(16 * track + 8);
    }

    /** Passes SAMPLES by days of sixty, and what is left of them. */
    static HeadServo pass(HeadServo x, int samples) {
        for (int i = 0; i < samples / 60; i++) x.day(60);
        if (samples % 60 != 0) x.day(samples % 60);
        return x;
    }

    static HeadServo steps(int n) {
        HeadServo x = still();
        for (int i = 0; i < n; i++) x.day(1);
        return x;
    }

    static HeadServo wobbles(int... by) {
        HeadServo x = new HeadServo();
        for (int s = 0; s < by.length; s++) x.wobble(s, by[s]);
        return x;
    }

    static HeadServo lose(HeadServo x, int... sectors) {
        for (int s : sectors) x.lose(s);
        return x;
    }

    /** A head over the middle of a TRACK, TRACKS being asked for. */
    static HeadServo asked(int track, int... tracks) {
        HeadServo x = atTrack(track);
        for (int t : tracks) x.request(t);
        return x;
    }

    /** A little of all: TEXTS, a FAULT, a tape, an image, STEPS, lines, REQUESTS, SAID, a gate that is open. */
    static void busy(HeadServo x) {
        Check.read(x, "pulls curve(0-error)-speed+learnt sector/9;learns 6;seek 9;day 3;");
        Check.read(x, "pulls 1+error/8;shake 3;write;lose 5;");
        x.wobble(1, 5);
        x.wobble(6, -4);
        x.lose(3);
        x.request(7);
        x.request(0);
        x.by(0);
        x.seek(3);
        x.day(20);
        x.image();
        x.said(-10, -4);
        x.said(4, -1);
        x.request(30);
        x.wobble(2, -1);
        for (int i = 0; i < 24; i++) x.seek(4 + i % 3);
        x.day(9);
        x.shake(-5);
        x.day(15);
        x.lose(4);
        x.by(-1);
        for (int i = 0; i < 40 && x.is(6) < 4; i++) x.day(1);
        x.write();
        Check.read(x, "day 61;");
        Check.feed(x, "pulls 7-speed;lose 2;");
    }
}
