import java.util.NoSuchElementException;
import java.util.function.Consumer;
import java.util.function.Supplier;

/** Promise by promise: the calls that are refused, those next to them that are not, and which exception comes first. */
public final class RefusedTest {
    private static final Class<NoSuchElementException> NONE = NoSuchElementException.class;
    private static final Class<IllegalArgumentException> ARGUMENT = IllegalArgumentException.class;
    private static final Class<IllegalStateException> STATE = IllegalStateException.class;
    private static final Class<IndexOutOfBoundsException> INDEX = IndexOutOfBoundsException.class;
    private static final Class<UnsupportedOperationException> FULL = UnsupportedOperationException.class;

    private static final int LEAST = Integer.MIN_VALUE;
    private static final int MOST = Integer.MAX_VALUE;
    private static final int[] NO_GROUPS = {-1, 3, LEAST, MOST};
    private static final int[] NO_MEMBERS = {-1, 6, LEAST, MOST};
    private static final int[] EDGE_GROUPS = {0, 2};
    private static final int[] EDGE_MEMBERS = {0, 5};
    private static final int[] STATES = {0, 1, 2, 3, 4};

    /** A call on one member, by its group and its number. */
    private interface MemberCall {
        void on(TalkNet net, int group, int member);
    }

    public static void main(String[] args) {
        rules();
        rulesThatWereRefusedDoNotHold();
        member();
        leave();
        press();
        again();
        release();
        unit();
        unitWhenItSent64();
        message();
        carryTwiceDrop();
        carryTwiceDropOfSixty();
        run();
        server();
        waiting();
        relay();
        about();
        Check.end();
    }

    /** Group 0: member 0 holds, 1 waits, and a UNIT is on its way. */
    private static TalkNet busy() {
        TalkNet net = Check.with(0, 2, 4);
        Check.ask(net, 0, 0, false);
        Check.ask(net, 0, 1, false);
        net.unit(0, 0, 8);
        return net;
    }

    private static void refused(String what, Class<? extends RuntimeException> want, Consumer<TalkNet> call) {
        Check.refused(RefusedTest::busy, what, want, call);
    }

    private static void taken(String what, Consumer<TalkNet> call) {
        Check.taken(RefusedTest::busy, what, call);
    }

    /** Promise 2: "NoSuchElementException; IllegalArgumentException when a number is not within its bounds." */
    private static void rules() {
        for (int g : NO_GROUPS) {
            refused("rules of group " + g, NONE, net -> net.rules(g, true, 9, 9, 9));
            refused("rules of group " + g + ", all wrong", NONE, net -> net.rules(g, true, 0, 51, -1));
        }
        for (int longest : new int[] {0, 101, -1, LEAST, MOST}) {
            refused("longest " + longest, ARGUMENT, net -> net.rules(0, true, longest, 9, 9));
        }
        for (int idle : new int[] {0, 51, -1, LEAST, MOST}) {
            refused("idle " + idle, ARGUMENT, net -> net.rules(0, true, 9, idle, 9));
        }
        for (int grace : new int[] {-1, 21, LEAST, MOST}) {
            refused("grace " + grace, ARGUMENT, net -> net.rules(0, true, 9, 9, grace));
        }
        for (int g : EDGE_GROUPS) {
            taken("the least rules of group " + g, net -> net.rules(g, false, 1, 1, 0));
            taken("the greatest rules of group " + g, net -> net.rules(g, true, 100, 50, 20));
        }
    }

    private static void rulesThatWereRefusedDoNotHold() {
        int[][] wrong = {{0, 1, 0}, {101, 1, 0}, {1, 0, 0}, {1, 51, 0}, {1, 1, -1}, {1, 1, 21}};
        for (int[] w : wrong) {
            TalkNet net = Check.with(0, 2, 0);
            String with = w[0] + " " + w[1] + " " + w[2];
            Check.due("rules " + with + " throws", Check.thrown(net, n -> n.rules(0, true, w[0], w[1], w[2])),
                    "IllegalArgumentException");
            Check.ask(net, 0, 0, false);
            Check.ask(net, 0, 1, true);
            Check.due("preempting after rules " + with, Check.server(net, 0), "1 0 1 0 0 -1");
            Check.ticks(net, 19);
            Check.due("longest and idle after rules " + with, net.server(0, 1), 0);
            net.tick();
            Check.due("idle after rules " + with, net.server(0, 1), 1);
        }
    }

    /** Promise 3: "NoSuchElementException; IllegalArgumentException." */
    private static void member() {
        noSuchMember("member", (net, g, m) -> net.member(g, m, 3));
        noSuchMember("member with a wrong priority", (net, g, m) -> net.member(g, m, 8));
        for (int priority : new int[] {-1, 8, LEAST, MOST}) {
            refused("priority " + priority + " of one that is there", ARGUMENT, net -> net.member(0, 0, priority));
            refused("priority " + priority + " of one that is not", ARGUMENT, net -> net.member(0, 5, priority));
        }
        for (int priority : new int[] {0, 7}) {
            taken("priority " + priority, net -> net.member(0, 0, priority));
        }
        edgesTaken("member", 0, (net, g, m) -> net.member(g, m, 3));
    }

    private static void noSuchMember(String what, MemberCall call) {
        for (int g : NO_GROUPS) {
            refused(what + " of group " + g, NONE, net -> call.on(net, g, 0));
            refused(what + " 6 of group " + g, NONE, net -> call.on(net, g, 6));
        }
        for (int m : NO_MEMBERS) {
            refused(what + " " + m, NONE, net -> call.on(net, 0, m));
        }
    }

    /** The call is taken for the first and the last member of the first and the last group. */
    private static void edgesTaken(String what, int state, MemberCall call) {
        for (int g : EDGE_GROUPS) {
            for (int m : EDGE_MEMBERS) {
                Check.taken(() -> Check.inState(g, m, state), what + " " + g + " " + m, net -> call.on(net, g, m));
            }
        }
    }

    /** Taken in these states alone, by one that is there. */
    private static void takenIn(String what, String states, MemberCall call) {
        for (int state : STATES) {
            Supplier<TalkNet> made = () -> Check.inState(1, 2, state);
            Check.due("the state", made.get().about(1, 2, 2), state);
            if (states.indexOf('0' + state) >= 0) {
                Check.taken(made, what + " in state " + state, net -> call.on(net, 1, 2));
            } else {
                Check.refused(made, what + " in state " + state, STATE, net -> call.on(net, 1, 2));
            }
            Supplier<TalkNet> gone = () -> {
                TalkNet net = made.get();
                net.leave(1, 2);
                return net;
            };
            Check.refused(gone, what + " by one that left in state " + state, STATE, net -> call.on(net, 1, 2));
        }
        refused(what + " by one that was never there", STATE, net -> call.on(net, 0, 5));
    }

    /** Promise 4: "NoSuchElementException." */
    private static void leave() {
        noSuchMember("leave", (net, g, m) -> net.leave(g, m));
        edgesTaken("leave", 0, (net, g, m) -> net.leave(g, m));
        taken("leave of one that is not there", net -> net.leave(0, 5));
    }

    /** Promise 5: "IllegalStateException when it is not there, or its state is not none." */
    private static void press() {
        noSuchMember("press", (net, g, m) -> net.press(g, m, true));
        edgesTaken("press", 0, (net, g, m) -> net.press(g, m, true));
        takenIn("press", "0", (net, g, m) -> net.press(g, m, false));
    }

    /** Promise 6: "IllegalStateException when it is not there, or in another state." */
    private static void again() {
        noSuchMember("again", (net, g, m) -> net.again(g, m));
        edgesTaken("again", 1, (net, g, m) -> net.again(g, m));
        takenIn("again", "12", (net, g, m) -> net.again(g, m));
    }

    /** Promise 7: "IllegalStateException when it is not there, or its state is none." */
    private static void release() {
        noSuchMember("release", (net, g, m) -> net.release(g, m));
        edgesTaken("release", 3, (net, g, m) -> net.release(g, m));
        takenIn("release", "1234", (net, g, m) -> net.release(g, m));
    }

    /** Promise 8: "IllegalStateException when it is not there, or in another state". */
    private static void unit() {
        noSuchMember("unit", (net, g, m) -> net.unit(g, m, 1));
        edgesTaken("unit", 3, (net, g, m) -> net.unit(g, m, 1));
        takenIn("unit", "34", (net, g, m) -> net.unit(g, m, 1));
        for (int value : new int[] {LEAST, -1, 0, MOST}) {
            taken("unit of value " + value, net -> net.unit(0, 0, value));
        }
    }

    /** A member in state 3 or 4 that sent so many units; none of them is on its way. */
    private static TalkNet sent(int state, int units) {
        TalkNet net = Check.inState(0, 0, state);
        for (int i = 0; i < units; i++) {
            net.unit(0, 0, i);
            net.drop(0);
        }
        return net;
    }

    /** Promise 8: "UnsupportedOperationException when it sent 64." */
    private static void unitWhenItSent64() {
        for (int state : new int[] {3, 4}) {
            for (int units : new int[] {62, 63}) {
                TalkNet net = sent(state, units);
                Check.due("unit in state " + state + " when it sent " + units, net.unit(0, 0, 5), units);
                Check.due("row", Check.row(net), "11/0/0(1," + units + ",5)");
                Check.due("units sent", net.about(0, 0, 6), units + 1);
            }
            Check.refused(() -> sent(state, 64), "unit in state " + state + " when it sent 64", FULL,
                    net -> net.unit(0, 0, 5));
        }
        Supplier<TalkNet> released = () -> {
            TalkNet net = sent(3, 64);
            net.release(0, 0);
            return net;
        };
        Check.refused(released, "unit when it sent 64 and has none", STATE, net -> net.unit(0, 0, 5));
        Supplier<TalkNet> gone = () -> {
            TalkNet net = sent(3, 64);
            net.leave(0, 0);
            return net;
        };
        Check.refused(gone, "unit when it sent 64 and is not there", STATE, net -> net.unit(0, 0, 5));
        TalkNet anew = released.get();
        Check.carryAll(anew);
        Check.ask(anew, 0, 0, false);
        Check.due("a new grant's first unit", anew.unit(0, 0, 5), 0);
    }

    /** Promise 10: "NoSuchElementException; IndexOutOfBoundsException for another what." */
    private static void message() {
        for (int k : new int[] {-1, 1, 60, LEAST, MOST}) {
            refused("message " + k, NONE, net -> net.message(k, 0));
            refused("message " + k + " and another what", NONE, net -> net.message(k, 6));
        }
        for (int what : new int[] {-1, 6, LEAST, MOST}) {
            refused("message 0 " + what, INDEX, net -> net.message(0, what));
        }
        for (int what = 0; what <= 5; what++) {
            int w = what;
            taken("message 0 " + w, net -> net.message(0, w));
        }
        Check.refused(TalkNet::new, "message of an empty row", NONE, net -> net.message(0, 0));
        Check.refused(() -> sixty(60), "message 60 of 60", NONE, net -> net.message(60, 0), Check::net);
        Check.due("message 59 of 60", sixty(60).message(59, 0), 1);
    }

    /** Promises 11 to 13: "NoSuchElementException." */
    private static void carryTwiceDrop() {
        for (int k : new int[] {-1, 1, 60, LEAST, MOST}) {
            refused("carry " + k, NONE, net -> net.carry(k));
            refused("twice " + k, NONE, net -> net.twice(k));
            refused("drop " + k, NONE, net -> net.drop(k));
        }
        taken("carry 0 of 1", net -> net.carry(0));
        taken("twice 0 of 1", net -> net.twice(0));
        taken("drop 0 of 1", net -> net.drop(0));
        Check.refused(TalkNet::new, "carry of an empty row", NONE, net -> net.carry(0));
        Check.refused(TalkNet::new, "twice of an empty row", NONE, net -> net.twice(0));
        Check.refused(TalkNet::new, "drop of an empty row", NONE, net -> net.drop(0));
    }

    /** A row with so many REQUESTs of one member. */
    private static TalkNet sixty(int count) {
        TalkNet net = Check.with(0, 1, 0);
        net.press(0, 0, false);
        for (int i = 1; i < count; i++) {
            net.again(0, 0);
        }
        return net;
    }

    private static void carryTwiceDropOfSixty() {
        for (int count : new int[] {2, 59, 60}) {
            Supplier<TalkNet> made = () -> sixty(count);
            String of = " of " + count;
            Check.refused(made, "carry" + of, NONE, net -> net.carry(count), Check::net);
            Check.refused(made, "twice" + of, NONE, net -> net.twice(count), Check::net);
            Check.refused(made, "drop" + of, NONE, net -> net.drop(count), Check::net);
            Check.taken(made, "carry of the last" + of, net -> net.carry(count - 1));
            Check.taken(made, "twice of the last" + of, net -> net.twice(count - 1));
            Check.taken(made, "drop of the last" + of, net -> net.drop(count - 1));
        }
    }

    /** Promise 14: "IllegalArgumentException when n is not 0 .. 200." */
    private static void run() {
        for (int n : new int[] {-1, 201, LEAST, MOST}) {
            refused("run " + n, ARGUMENT, net -> net.run(n));
            Check.refused(TalkNet::new, "run " + n + " of an empty row", ARGUMENT, net -> net.run(n));
        }
        for (int n : new int[] {0, 1, 199, 200}) {
            taken("run " + n, net -> net.run(n));
            Check.taken(TalkNet::new, "run " + n + " of an empty row", net -> net.run(n));
        }
    }

    /** Promise 16: "NoSuchElementException; IndexOutOfBoundsException for another what." */
    private static void server() {
        for (int g : NO_GROUPS) {
            refused("server of group " + g, NONE, net -> net.server(g, 0));
            refused("server of group " + g + " and another what", NONE, net -> net.server(g, 6));
        }
        for (int g : EDGE_GROUPS) {
            for (int what : new int[] {-1, 6, LEAST, MOST}) {
                refused("server " + g + " " + what, INDEX, net -> net.server(g, what));
            }
            for (int what : new int[] {0, 5}) {
                taken("server " + g + " " + what, net -> net.server(g, what));
            }
        }
    }

    /** Group 2: member 0 holds, and so many wait. */
    private static TalkNet waits(int count) {
        TalkNet net = Check.with(2, 6, 0);
        for (int m = 0; m <= count; m++) {
            Check.ask(net, 2, m, false);
        }
        return net;
    }

    /** Promise 17: "NoSuchElementException; IndexOutOfBoundsException when nobody does." */
    private static void waiting() {
        for (int g : NO_GROUPS) {
            refused("waiting of group " + g, NONE, net -> net.waiting(g, 0));
            refused("waiting of group " + g + " at no place", NONE, net -> net.waiting(g, -1));
        }
        refused("waiting of a group without members", INDEX, net -> net.waiting(2, 0));
        for (int count = 0; count <= 4; count++) {
            int c = count;
            for (int place : new int[] {-1, c, c + 1, LEAST, MOST}) {
                Check.refused(() -> waits(c), "waiting at " + place + " when " + c + " wait", INDEX,
                        net -> net.waiting(2, place));
            }
            TalkNet net = waits(c);
            for (int place = 0; place < c; place++) {
                Check.due("waiting at " + place + " when " + c + " wait", net.waiting(2, place), place + 1);
            }
        }
    }

    /** Promise 18: "NoSuchElementException; IndexOutOfBoundsException for another what." */
    private static void relay() {
        for (int g : NO_GROUPS) {
            refused("relay of group " + g, NONE, net -> net.relay(g, 0));
            refused("relay of group " + g + " and another what", NONE, net -> net.relay(g, 4));
        }
        for (int g : EDGE_GROUPS) {
            for (int what : new int[] {-1, 4, LEAST, MOST}) {
                refused("relay " + g + " " + what, INDEX, net -> net.relay(g, what));
            }
            for (int what : new int[] {0, 3}) {
                taken("relay " + g + " " + what, net -> net.relay(g, what));
            }
        }
    }

    /** Promise 19: "NoSuchElementException; IndexOutOfBoundsException for another what." */
    private static void about() {
        noSuchMember("about", (net, g, m) -> net.about(g, m, 0));
        noSuchMember("about with another what", (net, g, m) -> net.about(g, m, 15));
        for (int what : new int[] {-1, 15, LEAST, MOST}) {
            refused("about one that is there " + what, INDEX, net -> net.about(0, 0, what));
            refused("about one that is not " + what, INDEX, net -> net.about(2, 5, what));
        }
        for (int what : new int[] {0, 7, 8, 14}) {
            taken("about one that is there " + what, net -> net.about(0, 0, what));
            taken("about one that is not " + what, net -> net.about(2, 5, what));
        }
        edgesTaken("about", 0, (net, g, m) -> net.about(g, m, 14));
    }
}
