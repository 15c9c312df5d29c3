/** Promises 22 to 30: codes, bursts, where the head can be. */
public final class CodesTest {
    private static final Check c = new Check();
    private static final HeadServo x = new HeadServo();

    public static void main(String[] args) {
        gray();
        track();
        burst();
        reads();
        fit();
        fits();
        unlike();
        rim();
        blind();
        c.end();
    }

    private static void gray() {
        int[] want = {0, 1, 3, 2, 6, 7, 5, 4, 12};
        for (int i = 0; i < want.length; i++) c.due("gray(" + i + ")", x.gray(i), want[i]);
        c.due("gray(31)", x.gray(31), 16);
        c.due("gray(32)", x.gray(32), 48);
        c.due("gray(63)", x.gray(63), 32);
        c.due("gray(64)", x.gray(64), -1);
        c.due("gray(-1)", x.gray(-1), -1);
    }

    private static void track() {
        c.due("track(32)", x.track(32), 63);
        c.due("track(48)", x.track(48), 32);
        c.due("track(63)", x.track(63), 42);
        for (int i = 0; i < 64; i++) c.due("track(gray(" + i + "))", x.track(x.gray(i)), i);
        c.due("track(64)", x.track(64), -1);
        c.due("track(-1)", x.track(-1), -1);
    }

    private static void burst() {
        int[][] want = {{0, 16, 0, 8, 8}, {8, 8, 8, 0, 16}, {16, 0, 16, 8, 8}, {24, 8, 8, 16, 0}, {31, 15, 1, 9, 7},
            {1023, 15, 1, 9, 7}, {1000, 8, 8, 0, 16}};
        for (int[] w : want) {
            for (int i = 0; i < 4; i++) c.due("burst(" + w[0] + ", " + i + ")", x.burst(w[0], i), w[i + 1]);
        }
        c.due("burst(0, 4)", x.burst(0, 4), -1);
        c.due("burst(0, -1)", x.burst(0, -1), -1);
        c.due("burst(-1, 0)", x.burst(-1, 0), -1);
        c.due("burst(1024, 0)", x.burst(1024, 0), -1);
    }

    private static void reads() {
        int[][] want = {{0, 0, -1}, {3, 0, -1}, {11, 0, -1}, {12, 0, 1}, {15, 0, 1}, {16, 1, 0}, {19, 1, 0}, {20, 1, -1},
            {27, 1, -1}, {28, 1, 3}, {1023, 32, -1}, {1020, 32, -1}, {1008, 32, 33}, {1011, 32, 33}, {1012, 32, -1}};
        for (int[] w : want) {
            c.due("reads(" + w[0] + ", false)", x.reads(w[0], false), w[1]);
            c.due("reads(" + w[0] + ", true)", x.reads(w[0], true), w[2]);
        }
        c.due("reads(-1, false)", x.reads(-1, false), -1);
        c.due("reads(1024, false)", x.reads(1024, false), -1);
        c.due("reads(-1, true)", x.reads(-1, true), -1);
        c.due("reads(1024, true)", x.reads(1024, true), -1);
    }

    private static void fit() {
        // PLACE 20: bursts 4, 12, 12, 4; TRACK 1's CODE is read from 12 to 35.
        c.due("fit(1, 4, 12, 12, 4)", x.fit(1, 4, 12, 12, 4), 20);
        c.due("fit(1, 4, none)", x.fit(1, 4, -1, -1, -1), 12);
        c.due("fit(3, 4, 12, 12, 4)", x.fit(3, 4, 12, 12, 4), -1);
        c.due("fit(32, none)", x.fit(32, -1, -1, -1, -1), 1004);
        c.due("fit(0, 16, 0, 8, 8)", x.fit(0, 16, 0, 8, 8), 0);
        c.due("fit(0, 15, -1, -1, 7)", x.fit(0, 15, -1, -1, 7), -1);
        c.due("fit(-1, ..)", x.fit(-1, -1, -1, -1, -1), -1);
        c.due("fit(64, ..)", x.fit(64, -1, -1, -1, -1), -1);
        c.due("fit(.., 17)", x.fit(0, -1, -1, -1, 17), -1);
        c.due("fit(.., -2)", x.fit(0, -2, -1, -1, -1), -1);
    }

    private static void fits() {
        c.due("fits(1, none)", x.fits(1, -1, -1, -1, -1), 24);
        c.due("fits(0, none)", x.fits(0, -1, -1, -1, -1), 20);
        c.due("fits(32, none)", x.fits(32, -1, -1, -1, -1), 20);
        c.due("fits(1, 4, 12, 12, 4)", x.fits(1, 4, 12, 12, 4), 1);
        c.due("fits(1, 4, none)", x.fits(1, 4, -1, -1, -1), 2);
        c.due("fits(1, 4, 12, none)", x.fits(1, -1, 12, 12, -1), 1);
        c.due("fits(3, 4, 12, 12, 4)", x.fits(3, 4, 12, 12, 4), 0);
        c.due("fits(1, 16, 16, 16, 16)", x.fits(1, 16, 16, 16, 16), 0);
        c.due("fits(64, ..)", x.fits(64, 0, 0, 0, 0), -1);
        c.due("fits(-1, ..)", x.fits(-1, 0, 0, 0, 0), -1);
        c.due("fits(.., 17, ..)", x.fits(0, 0, 17, 0, 0), -1);
        c.due("fits(.., 17, .)", x.fits(0, 0, 0, 17, 0), -1);
        c.due("fits(.., -2)", x.fits(0, 0, 0, 0, -2), -1);
    }

    private static void unlike() {
        c.due("unlike(5, 5)", x.unlike(5, 5), 0);
        c.due("unlike(0, 42)", x.unlike(0, 42), 6);
        c.due("unlike(42, 0)", x.unlike(42, 0), 6);
        c.due("unlike(0, 63)", x.unlike(0, 63), 1);
        c.due("unlike(31, 32)", x.unlike(31, 32), 1);
        c.due("unlike(2, 4)", x.unlike(2, 4), 2);
        c.due("unlike(0, 64)", x.unlike(0, 64), -1);
        c.due("unlike(-1, 0)", x.unlike(-1, 0), -1);
        c.due("unlike(64, 0)", x.unlike(64, 0), -1);
        c.due("unlike(0, -1)", x.unlike(0, -1), -1);
    }

    private static void rim() {
        c.due("rim(0, false)", x.rim(0, false), 0);
        c.due("rim(0, true)", x.rim(0, true), 19);
        c.due("rim(3, false)", x.rim(3, false), 28);
        c.due("rim(3, true)", x.rim(3, true), 51);
        c.due("rim(32, false)", x.rim(32, false), 1004);
        c.due("rim(32, true)", x.rim(32, true), 1023);
        c.due("rim(64, false)", x.rim(64, false), -1);
        c.due("rim(-1, true)", x.rim(-1, true), -1);
    }

    private static void blind() {
        c.due("blind(none)", x.blind(-1, -1, -1, -1), 1024);
        c.due("blind(16, ..)", x.blind(16, -1, -1, -1), 32);
        c.due("blind(0, ..)", x.blind(0, -1, -1, -1), 32);
        c.due("blind(4, ..)", x.blind(4, -1, -1, -1), 64);
        c.due("blind(4, 12, 12, 4)", x.blind(4, 12, 12, 4), 32);
        c.due("blind(4, 4, ..)", x.blind(4, 4, -1, -1), 0);
        c.due("blind(.., 0, 16)", x.blind(-1, -1, 0, 16), 32);
        c.due("blind(17, ..)", x.blind(17, 0, 0, 0), -1);
        c.due("blind(.., -2, ..)", x.blind(0, -2, 0, 0), -1);
        c.due("blind(.., 17, .)", x.blind(0, 0, 17, 0), -1);
        c.due("blind(.., 17)", x.blind(0, 0, 0, 17), -1);
    }
}
