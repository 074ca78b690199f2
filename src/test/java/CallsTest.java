/**
 * "An object is used for at most 512 calls after it has been made": up to the 512th, each is answered as the document
 * says, however great the numbers have grown by then.
 */
public final class CallsTest {
    private static final int CALLS = 512;

    public static void main(String[] args) {
        ticks();
        refusedCalls();
        requests();
        grants();
        units();
        stopped();
        late();
        played();
        gaps();
        Check.end();
    }

    /** Calls that change nothing, so that the next one is the last: so many were made before. */
    private static void untilTheLast(TalkNet net, int made) {
        Check.due("calls that were made leave one at least", made < CALLS, true);
        for (int i = made; i < CALLS - 1; i++) {
            net.messages();
        }
    }

    private static void ticks() {
        TalkNet net = new TalkNet();
        for (int time = 1; time <= CALLS; time++) {
            Check.due("tick", net.tick(), time);
        }
    }

    private static void refusedCalls() {
        TalkNet net = new TalkNet();
        for (int i = 1; i < CALLS; i++) {
            Check.due("unit " + i, Check.thrown(net, n -> n.unit(2, 5, 0)), "IllegalStateException");
        }
        Check.due("the time, by the last call", net.tick(), 1);
    }

    /** One member asks and releases 255 times, and nothing is carried: 511 calls. */
    private static TalkNet asked() {
        TalkNet net = Check.with(0, 1, 0);
        for (int number = 1; number <= 255; number++) {
            Check.due("press", net.press(0, 0, false), number);
            net.release(0, 0);
        }
        return net;
    }

    private static void requests() {
        Check.due("its request's number, by the last call", asked().about(0, 0, 3), 255);
        Check.due("messages, by the last call", asked().messages(), 60);
        Check.due("lost, by the last call", asked().lost(), 450);
        // Each that is carried makes room for one, and loses the others that it sends.
        Check.due("carried, by the last call", asked().run(200), 120);
    }

    /** One member is granted the floor 169 times: 507 calls. */
    private static void grants() {
        TalkNet net = Check.with(0, 1, 0);
        net.press(0, 0, false);
        Check.due("REQUEST, GRANTED and GATE", net.run(200), 3);
        for (int grant = 2; grant <= 169; grant++) {
            net.release(0, 0);
            net.press(0, 0, false);
            Check.due("RELEASE, REQUEST, GATE, GRANTED and GATE", net.run(200), 5);
        }
        Check.due("the grants' number", net.server(0, 0), 169);
        Check.due("it is granted", Check.about(net, 0, 0, 2, 3), "3 169");
        Check.due("its grant", net.about(0, 0, 5), 169);
        Check.due("the gate's grant, by the last call", net.relay(0, 0), 169);
    }

    private static void send(TalkNet net, int count) {
        for (int i = 0; i < count; i++) {
            net.unit(0, 0, i);
        }
    }

    /** Member 0 sends 64 units of each of 7 grants, and all of them come to member 1 in one tick: 480 calls. */
    private static void units() {
        TalkNet net = Check.with(0, 2, 0);
        net.press(0, 0, false);
        for (int grant = 1; grant <= 7; grant++) {
            net.run(200);
            send(net, 60);
            net.run(200);
            send(net, 4);
            net.release(0, 0);
            net.press(0, 0, false);
        }
        net.run(200);
        Check.due("relay", Check.relay(net, 0), "8 0 448 0");
        // Of each grant 16 are kept, and 48 are too far above the first.
        Check.due("listener", Check.about(net, 0, 1, 8, 14), "7 1 0 0 0 336 0");
        untilTheLast(net, 480 + 4 + 7);
        Check.due("a unit's number, by the last call", net.unit(0, 0, 0), 0);
    }

    private static void stopped() {
        TalkNet net = Check.with(0, 1, 0);
        net.press(0, 0, false);
        net.run(200);
        net.unit(0, 0, 1);
        for (int i = 0; i < 507; i++) {
            net.twice(0);
        }
        Check.due("units that were stopped, by the last call", net.relay(0, 3), 506);
    }

    private static void late() {
        TalkNet net = Check.with(0, 2, 0);
        net.press(0, 0, false);
        net.run(200);
        net.unit(0, 0, 1);
        net.carry(0);
        for (int i = 0; i < 505; i++) {
            net.twice(0);
        }
        Check.due("late ones, by the last call", net.about(0, 1, 13), 504);
    }

    /** Member 0 has 13 grants, and 16 units of each are played by member 1: 484 calls. */
    private static void played() {
        TalkNet net = Check.with(0, 2, 0);
        net.press(0, 0, false);
        int sum = 0;
        for (int grant = 1; grant <= 13; grant++) {
            net.run(200);
            send(net, 16);
            net.run(200);
            Check.ticks(net, 17);
            net.release(0, 0);
            net.press(0, 0, false);
            for (int i = 0; i < 16; i++) {
                sum = sum * 31 + i;
            }
        }
        Check.due("13 spurts of 16", Check.about(net, 0, 1, 8, 14), "13 1 16 208 0 0 " + sum);
        untilTheLast(net, 484 + 7);
        Check.due("the time, by the last call", net.tick(), 13 * 17 + 1);
    }

    /** Member 0 has 45 grants with one unit each, and member 1 plays it and four gaps behind it: 498 calls. */
    private static void gaps() {
        TalkNet net = Check.with(0, 2, 0);
        net.press(0, 0, false);
        int sum = 0;
        for (int grant = 1; grant <= 45; grant++) {
            net.run(200);
            net.unit(0, 0, grant);
            net.run(200);
            Check.ticks(net, 6);
            net.release(0, 0);
            net.press(0, 0, false);
            sum = sum * 31 + grant;
            for (int i = 0; i < 4; i++) {
                sum = sum * 31 - 1;
            }
        }
        Check.due("45 spurts with four gaps", Check.about(net, 0, 1, 8, 14), "45 0 5 45 180 0 " + sum);
        untilTheLast(net, 498 + 7);
        Check.due("the time, by the last call", net.tick(), 45 * 6 + 1);
    }
}
