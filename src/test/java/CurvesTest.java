/** Promises 31 to 38: stopping curves, plans, what is learnt. */
public final class CurvesTest {
    private static final Check c = new Check();
    private static final HeadServo x = new HeadServo();

    public static void main(String[] args) {
        curve();
        stop();
        needs();
        fewest();
        plan();
        learn();
        rests();
        gain();
        c.end();
    }

    private static void curve() {
        int[][] want = {{0, 1, 0}, {0, 9, 0}, {1, 1, 1}, {2, 1, 1}, {3, 1, 2}, {989, 1, 43}, {990, 1, 44}, {1023, 1, 44},
            {1023, 2, 62}, {1023, 3, 64}, {9, 9, 9}, {10, 9, 9}, {12, 9, 10}, {8, 9, 8}, {9, 2, 5}, {8, 2, 4}, {259, 9, 63},
            {260, 9, 64}};
        for (int[] w : want) c.due("curve(" + w[0] + ", " + w[1] + ")", x.curve(w[0], w[1]), w[2]);
        c.due("curve(-1, 1)", x.curve(-1, 1), -1);
        c.due("curve(1024, 1)", x.curve(1024, 1), -1);
        c.due("curve(0, 0)", x.curve(0, 0), -1);
        c.due("curve(0, 10)", x.curve(0, 10), -1);
    }

    private static void stop() {
        int[][] want = {{0, 1, 0}, {0, 9, 0}, {1, 9, 1}, {9, 9, 9}, {10, 9, 11}, {5, 1, 15}, {5, 2, 9}, {6, 2, 12}, {7, 3, 12},
            {64, 1, 2080}, {64, 8, 288}, {64, 9, 260}};
        for (int[] w : want) c.due("stop(" + w[0] + ", " + w[1] + ")", x.stop(w[0], w[1]), w[2]);
        c.due("stop(-1, 1)", x.stop(-1, 1), -1);
        c.due("stop(65, 1)", x.stop(65, 1), -1);
        c.due("stop(1, 0)", x.stop(1, 0), -1);
        c.due("stop(1, 10)", x.stop(1, 10), -1);
    }

    private static void needs() {
        int[][] want = {{0, 0, 1}, {1, 0, -1}, {1, 1, 1}, {5, 15, 1}, {5, 14, 2}, {5, 9, 2}, {5, 8, 3}, {5, 7, 3}, {5, 6, 4},
            {5, 5, 5}, {5, 4, -1}, {64, 260, 9}, {64, 259, -1}, {44, 1023, 1}, {45, 1023, 2}, {64, 1023, 3}};
        for (int[] w : want) c.due("needs(" + w[0] + ", " + w[1] + ")", x.needs(w[0], w[1]), w[2]);
        c.due("needs(-1, 0)", x.needs(-1, 0), -1);
        c.due("needs(65, 1023)", x.needs(65, 1023), -1);
        c.due("needs(0, -1)", x.needs(0, -1), -1);
        c.due("needs(0, 1024)", x.needs(0, 1024), -1);
    }

    private static void fewest() {
        // Up to v and down: v * v in 2 v - 1; up to 7: 49 in 13, 7 more 14, 60: 15.
        int[][] want = {{0, 1, 0}, {1, 1, 1}, {2, 1, 2}, {60, 1, 60}, {4, 9, 3}, {5, 9, 4}, {6, 9, 4}, {7, 9, 5}, {9, 9, 5},
            {9, 2, 6}, {49, 9, 13}, {56, 9, 14}, {57, 9, 15}, {60, 9, 15}, {60, 2, 31}, {60, 3, 22}};
        for (int[] w : want) c.due("fewest(" + w[0] + ", " + w[1] + ")", x.fewest(w[0], w[1]), w[2]);
        c.due("fewest(-1, 1)", x.fewest(-1, 1), -1);
        c.due("fewest(61, 1)", x.fewest(61, 1), -1);
        c.due("fewest(5, 0)", x.fewest(5, 0), -1);
        c.due("fewest(5, 10)", x.fewest(5, 10), -1);
    }

    private static void row(int far, int most, int... want) {
        for (int i = 0; i < want.length; i++) c.due("plan(" + far + ", " + most + ", " + i + ")", x.plan(far, most, i), want[i]);
        c.due("plan(" + far + ", " + most + ", behind)", x.plan(far, most, want.length), -1);
        c.due("plan(" + far + ", " + most + ", -1)", x.plan(far, most, -1), -1);
        c.due("fewest(" + far + ", " + most + ")", x.fewest(far, most), want.length);
    }

    private static void plan() {
        row(0, 5);
        row(1, 5, 1);
        row(2, 5, 1, 1);
        row(3, 5, 1, 1, 1);
        row(4, 5, 1, 2, 1);
        row(5, 5, 1, 1, 2, 1);
        row(6, 5, 1, 2, 2, 1);
        row(7, 5, 1, 1, 2, 2, 1);
        row(8, 5, 1, 2, 2, 2, 1);
        row(9, 5, 1, 2, 3, 2, 1);
        row(9, 2, 1, 1, 2, 2, 2, 1);
        row(10, 9, 1, 1, 2, 3, 2, 1);
        row(12, 9, 1, 2, 3, 3, 2, 1);
        row(5, 1, 1, 1, 1, 1, 1);
        c.due("plan(61, 1, 0)", x.plan(61, 1, 0), -1);
        c.due("plan(-1, 1, 0)", x.plan(-1, 1, 0), -1);
        c.due("plan(5, 0, 0)", x.plan(5, 0, 0), -1);
        c.due("plan(5, 10, 0)", x.plan(5, 10, 0), -1);
        c.due("plan(60, 9, greatest)", x.plan(60, 9, Integer.MAX_VALUE), -1);
    }

    private static void learn() {
        int[][] want = {{10, 8, 0, 0}, {10, 8, 1, 5}, {10, 8, 2, 7}, {10, 8, 3, 8}, {10, 8, 4, 9}, {10, 8, 5, 9}, {10, 8, 999, 9},
            {-10, 8, 2, -7}, {99, 16, 1, 99}, {-99, 16, 1, -99}, {99, 1, 1, 6}, {99, 1, 2, 11}, {15, 1, 999, 0}, {16, 1, 999, 1},
            {50, 0, 999, 0}};
        for (int[] w : want) c.due("learn(" + w[0] + ", " + w[1] + ", " + w[2] + ")", x.learn(w[0], w[1], w[2]), w[3]);
        c.due("learn(100, 1, 1)", x.learn(100, 1, 1), -1000);
        c.due("learn(-100, 1, 1)", x.learn(-100, 1, 1), -1000);
        c.due("learn(1, -1, 1)", x.learn(1, -1, 1), -1000);
        c.due("learn(1, 17, 1)", x.learn(1, 17, 1), -1000);
        c.due("learn(1, 1, -1)", x.learn(1, 1, -1), -1000);
        c.due("learn(1, 1, 1000)", x.learn(1, 1, 1000), -1000);
    }

    private static void rests() {
        int[][] want = {{10, 8, 4}, {-10, 8, 4}, {10, 16, 1}, {10, 0, 0}, {0, 16, 0}, {1, 15, 0}, {15, 1, 0}, {16, 1, 1}, {99, 16, 1}};
        for (int[] w : want) c.due("rests(" + w[0] + ", " + w[1] + ")", x.rests(w[0], w[1]), w[2]);
        c.due("rests(100, 1)", x.rests(100, 1), -1);
        c.due("rests(-100, 1)", x.rests(-100, 1), -1);
        c.due("rests(1, -1)", x.rests(1, -1), -1);
        c.due("rests(1, 17)", x.rests(1, 17), -1);
    }

    private static void gain() {
        c.due("gain(0)", x.gain(0), 0);
        c.due("gain(1)", x.gain(1), 16);
        c.due("gain(-1)", x.gain(-1), 16);
        c.due("gain(99)", x.gain(99), 16);
        c.due("gain(-99)", x.gain(-99), 16);
        c.due("gain(100)", x.gain(100), -1);
        c.due("gain(-100)", x.gain(-100), -1);
    }
}
