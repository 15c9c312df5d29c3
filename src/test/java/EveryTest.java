import java.util.List;

/** What is asked of codes, curves and learning (promises 22 to 38), for every argument inside the bounds, against Model. */
public final class EveryTest {
    private static final Check c = new Check();
    private static final Model m = new Model();
    private static HeadServo object = new HeadServo();
    private static int calls = 0;

    public static void main(String[] args) {
        tracks();
        places();
        bursts();
        stops();
        plans();
        turns();
        c.end();
    }

    /** An object is used for at most 512 calls. */
    private static HeadServo x() {
        calls++;
        if (calls % 512 == 0) object = new HeadServo();
        return object;
    }

    private static void tracks() {
        for (int t = 0; t < 64; t++) {
            c.due("gray(" + t + ")", x().gray(t), m.gray(t));
            c.due("track(" + t + ")", x().track(t), m.track(t));
            c.due("rim(" + t + ", false)", x().rim(t, false), m.rim(t, false));
            c.due("rim(" + t + ", true)", x().rim(t, true), m.rim(t, true));
            for (int u = 0; u < 64; u++) c.due("unlike(" + t + ", " + u + ")", x().unlike(t, u), m.unlike(t, u));
        }
    }

    private static void places() {
        for (int p = 0; p < 1024; p++) {
            c.due("reads(" + p + ", false)", x().reads(p, false), m.reads(p, false));
            c.due("reads(" + p + ", true)", x().reads(p, true), m.reads(p, true));
            for (int i = 0; i < 4; i++) c.due("burst(" + p + ", " + i + ")", x().burst(p, i), m.burst(p, i));
        }
    }

    /** Each BURST alone, and each pair that there is. */
    private static void bursts() {
        for (int a = -1; a <= 16; a++) {
            for (int d = -1; d <= 16; d++) {
                c.due("blind(" + a + ", .., " + d + ")", x().blind(a, -1, -1, d), m.blind(a, -1, -1, d));
                c.due("blind(.., " + a + ", " + d + ", ..)", x().blind(-1, a, d, -1), m.blind(-1, a, d, -1));
                for (int code : new int[] {0, 1, 32, 33, 63}) {
                    c.due("fit(" + code + ", " + a + ", .., " + d + ")", x().fit(code, a, -1, -1, d), m.fit(code, a, -1, -1, d));
                    c.due("fits(" + code + ", " + a + ", .., " + d + ")", x().fits(code, a, -1, -1, d), m.fits(code, a, -1, -1, d));
                }
            }
        }
    }

    private static void stops() {
        for (int pull = 1; pull <= 9; pull++) {
            for (int far = 0; far < 1024; far++) c.due("curve(" + far + ", " + pull + ")", x().curve(far, pull), m.curve(far, pull));
            for (int v = 0; v <= 64; v++) c.due("stop(" + v + ", " + pull + ")", x().stop(v, pull), m.stop(v, pull));
        }
        for (int v = 0; v <= 64; v++) {
            for (int far = 0; far < 1024; far++) c.due("needs(" + v + ", " + far + ")", x().needs(v, far), m.needs(v, far));
        }
    }

    private static void plans() {
        for (int far = 0; far <= 60; far++) {
            for (int most = 1; most <= 9; most++) {
                List<Integer> plan = Model.speeds(far, most);
                c.due("fewest(" + far + ", " + most + ")", x().fewest(far, most), plan.size());
                for (int i = 0; i < plan.size(); i++) {
                    c.due("plan(" + far + ", " + most + ", " + i + ")", x().plan(far, most, i), plan.get(i));
                }
            }
        }
    }

    private static void turns() {
        for (int off = -99; off <= 99; off++) {
            c.due("gain(" + off + ")", x().gain(off), m.gain(off));
            for (int gain = 0; gain <= 16; gain++) {
                c.due("rests(" + off + ", " + gain + ")", x().rests(off, gain), m.rests(off, gain));
                for (int turns : new int[] {0, 1, 2, 3, 7, 20, 100, 998, 999}) {
                    c.due("learn(" + off + ", " + gain + ", " + turns + ")", x().learn(off, gain, turns), m.learn(off, gain, turns));
                }
            }
        }
    }
}
