import java.util.function.Consumer;
import java.util.function.Function;
import java.util.function.Supplier;

/**
 * What the tests share: answers that are compared with what is due, and pictures of an object's state.
 * An object is good for 512 calls, so no test makes more on one; a picture of all takes some 320, and six a message.
 */
final class Check {
    static final int GROUPS = 3;
    static final int MEMBERS = 6;

    private static int wrong = 0;
    private static int asked = 0;

    private Check() {
    }

    static void due(String what, Object got, Object want) {
        asked++;
        if (!want.equals(got)) {
            wrong++;
            System.out.println(what + ": answered " + got + ", due is " + want);
        }
    }

    /** The call throws just this exception, and the object is then as one on which it was not made. */
    static void refused(Supplier<TalkNet> made, String what, Class<? extends RuntimeException> want,
            Consumer<TalkNet> call) {
        refused(made, what, want, call, Check::all);
    }

    /** As above, for an object of which a full picture would take too many calls. */
    static void refused(Supplier<TalkNet> made, String what, Class<? extends RuntimeException> want,
            Consumer<TalkNet> call, Function<TalkNet, String> picture) {
        TalkNet called = made.get();
        TalkNet untouched = made.get();
        due(what + " throws", thrown(called, call), want.getSimpleName());
        due(what + " changes nothing", picture.apply(called), picture.apply(untouched));
        due(what + " makes no time go by", called.tick(), untouched.tick());
    }

    /** The call throws nothing. */
    static void taken(Supplier<TalkNet> made, String what, Consumer<TalkNet> call) {
        due(what + " throws", thrown(made.get(), call), "nothing");
    }

    /** The simple name of what the call throws, or "nothing". */
    static String thrown(TalkNet net, Consumer<TalkNet> call) {
        try {
            call.accept(net);
        } catch (RuntimeException e) {
            return e.getClass().getSimpleName();
        }
        return "nothing";
    }

    static void end() {
        System.out.println(asked + " answers asked for, " + wrong + " not as due");
        if (wrong != 0 || asked == 0) {
            System.exit(1);
        }
    }

    /** A message as kind/group/member(a,b,c). */
    static String message(TalkNet net, int k) {
        return net.message(k, 0) + "/" + net.message(k, 1) + "/" + net.message(k, 2)
                + "(" + net.message(k, 3) + "," + net.message(k, 4) + "," + net.message(k, 5) + ")";
    }

    static String row(TalkNet net) {
        StringBuilder text = new StringBuilder();
        int count = net.messages();
        for (int k = 0; k < count; k++) {
            text.append(k == 0 ? "" : " ").append(message(net, k));
        }
        return text.toString();
    }

    /** The first message with this picture is carried twice: it comes, and stays for another time. */
    static void comes(TalkNet net, String picture) {
        int k = find(net, picture);
        due(picture + " is on its way", k >= 0, true);
        if (k >= 0) {
            net.twice(k);
        }
    }

    private static int find(TalkNet net, String picture) {
        int count = net.messages();
        for (int k = 0; k < count; k++) {
            if (message(net, k).equals(picture)) {
                return k;
            }
        }
        return -1;
    }

    static String server(TalkNet net, int group) {
        StringBuilder text = new StringBuilder();
        for (int what = 0; what <= 5; what++) {
            text.append(what == 0 ? "" : " ").append(net.server(group, what));
        }
        return text.toString();
    }

    static String waiting(TalkNet net, int group) {
        StringBuilder text = new StringBuilder();
        int count = net.server(group, 2);
        for (int place = 0; place < count; place++) {
            text.append(place == 0 ? "" : " ").append(net.waiting(group, place));
        }
        return text.toString();
    }

    static String relay(TalkNet net, int group) {
        StringBuilder text = new StringBuilder();
        for (int what = 0; what <= 3; what++) {
            text.append(what == 0 ? "" : " ").append(net.relay(group, what));
        }
        return text.toString();
    }

    static String about(TalkNet net, int group, int member) {
        return about(net, group, member, 0, 14);
    }

    static String about(TalkNet net, int group, int member, int first, int last) {
        StringBuilder text = new StringBuilder();
        for (int what = first; what <= last; what++) {
            text.append(what == first ? "" : " ").append(net.about(group, member, what));
        }
        return text.toString();
    }

    static String all(TalkNet net) {
        StringBuilder text = new StringBuilder();
        text.append(net(net));
        for (int g = 0; g < GROUPS; g++) {
            text.append("; ").append(group(net, g));
        }
        return text.toString();
    }

    static String net(TalkNet net) {
        return "lost " + net.lost() + "; row " + row(net);
    }

    static String group(TalkNet net, int group) {
        StringBuilder text = new StringBuilder();
        text.append("server ").append(server(net, group));
        text.append("; waiting ").append(waiting(net, group));
        text.append("; relay ").append(relay(net, group));
        for (int m = 0; m < MEMBERS; m++) {
            text.append("; about ").append(about(net, group, m));
        }
        return text.toString();
    }

    /** A new object with members 0 .. count - 1 in the group, all of one priority. */
    static TalkNet with(int group, int count, int priority) {
        TalkNet net = new TalkNet();
        for (int m = 0; m < count; m++) {
            net.member(group, m, priority);
        }
        return net;
    }

    /** A new object with a member in a state (0 .. 4) and another one beside it, and no message on its way. */
    static TalkNet inState(int group, int member, int state) {
        TalkNet net = new TalkNet();
        int other = member == 0 ? 1 : 0;
        net.rules(group, true, 100, 50, 20);
        net.member(group, member, 3);
        net.member(group, other, state == 4 ? 7 : 3);
        if (state == 1) {
            net.press(group, member, false);
            net.drop(0);
        }
        if (state == 2) {
            ask(net, group, other, false);
        }
        if (state >= 2) {
            ask(net, group, member, false);
        }
        if (state == 4) {
            ask(net, group, other, false);
        }
        return net;
    }

    /** The member asks, and all messages are carried until none is left. */
    static void ask(TalkNet net, int group, int member, boolean emergency) {
        net.press(group, member, emergency);
        carryAll(net);
    }

    static void carryAll(TalkNet net) {
        while (net.messages() > 0) {
            net.run(200);
        }
    }

    static void dropAll(TalkNet net) {
        while (net.messages() > 0) {
            net.drop(0);
        }
    }

    static int ticks(TalkNet net, int count) {
        int time = 0;
        for (int i = 0; i < count; i++) {
            time = net.tick();
        }
        return time;
    }
}
