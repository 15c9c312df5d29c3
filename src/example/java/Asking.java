/** What is asked changes nothing: what comes, places from bursts, plans, learning, orders of requests. */
public final class Asking {
    public static void main(String[] args) {
        HeadServo head = new HeadServo();

        int code = head.gray(5);
        show("the code of track 5", code);
        show("the place with that code and two of four bursts",
            head.fit(code, head.burst(90, 0), HeadServo.NONE, head.burst(90, 2), HeadServo.NONE));

        int samples = head.fewest(20, 4);
        show("samples to go 20 places on, at most 4 fast", samples);
        StringBuilder plan = new StringBuilder();
        for (int i = 0; i < samples; i++) {
            plan.append(i == 0 ? "" : " ").append(head.plan(20, 4, i));
        }
        show("speeds", plan);

        show("learnt of an off of 50 by a gain of 4 behind three turns", head.learn(50, 4, 3));
        show("turns till it rests", head.rests(50, 4));
        show("the best gain for it", head.gain(50));

        head.request(12);
        head.request(3);
        head.request(40);
        show("the best order's way", head.order(HeadServo.NONE));
        show("its first track", head.order(0));
        show("no request any more", head.request(HeadServo.NONE));

        head.image();
        head.years(2026, 40);
        show("clock behind draws", head.is(0));
        show("clock behind going back to the image", head.back());
    }

    private static void show(String what, Object answer) {
        System.out.println(what + ": " + answer);
    }
}
