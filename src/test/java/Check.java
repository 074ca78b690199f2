/** What the tests share: answers that are compared with what is due, and pictures of an object's state. */
final class Check {
    static final int GROUPS = 3;
    static final int MEMBERS = 6;

    private static int wrong = 0;
    private static int asked = 0;

    private Check() {
    }

    static void due(String what, Object got, Object want) {
        asked++;
        if (!want.equals(got)) {
            wrong++;
            System.out.println(what + ": answered " + got + ", due is " + want);
        }
    }

    /** The call throws just this exception, and changes nothing of what can be seen. */
    static void refused(TalkNet net, String what, Class<? extends RuntimeException> want, Runnable call) {
        String before = all(net);
        Object got = "nothing thrown";
        try {
            call.run();
        } catch (RuntimeException e) {
            got = e.getClass();
        }
        due(what + " throws", got, want);
        due(what + " changes nothing", all(net), before);
    }

    static void end() {
        System.out.println(asked + " answers asked for, " + wrong + " not as due");
        if (wrong != 0 || asked == 0) {
            System.exit(1);
        }
    }

    /** A message as kind/group/member(a,b,c). */
    static String message(TalkNet net, int k) {
        return net.message(k, 0) + "/" + net.message(k, 1) + "/" + net.message(k, 2)
                + "(" + net.message(k, 3) + "," + net.message(k, 4) + "," + net.message(k, 5) + ")";
    }

    static String row(TalkNet net) {
        StringBuilder text = new StringBuilder();
        for (int k = 0; k < net.messages(); k++) {
            text.append(k == 0 ? "" : " ").append(message(net, k));
        }
        return text.toString();
    }

    static String server(TalkNet net, int group) {
        StringBuilder text = new StringBuilder();
        for (int what = 0; what <= 5; what++) {
            text.append(what == 0 ? "" : " ").append(net.server(group, what));
        }
        return text.toString();
    }

    static String waiting(TalkNet net, int group) {
        StringBuilder text = new StringBuilder();
        for (int place = 0; place < net.server(group, 2); place++) {
            text.append(place == 0 ? "" : " ").append(net.waiting(group, place));
        }
        return text.toString();
    }

    static String relay(TalkNet net, int group) {
        StringBuilder text = new StringBuilder();
        for (int what = 0; what <= 3; what++) {
            text.append(what == 0 ? "" : " ").append(net.relay(group, what));
        }
        return text.toString();
    }

    static String about(TalkNet net, int group, int member) {
        return about(net, group, member, 0, 14);
    }

    static String about(TalkNet net, int group, int member, int first, int last) {
        StringBuilder text = new StringBuilder();
        for (int what = first; what <= last; what++) {
            text.append(what == first ? "" : " ").append(net.about(group, member, what));
        }
        return text.toString();
    }

    static String all(TalkNet net) {
        StringBuilder text = new StringBuilder();
        text.append("lost ").append(net.lost()).append("; row ").append(row(net));
        for (int g = 0; g < GROUPS; g++) {
            text.append("; server ").append(server(net, g));
            text.append("; waiting ").append(waiting(net, g));
            text.append("; relay ").append(relay(net, g));
            for (int m = 0; m < MEMBERS; m++) {
                text.append("; about ").append(about(net, g, m));
            }
        }
        return text.toString();
    }

    /** A new object with members 0 .. count - 1 in the group, all of one priority. */
    static TalkNet with(int group, int count, int priority) {
        TalkNet net = new TalkNet();
        for (int m = 0; m < count; m++) {
            net.member(group, m, priority);
        }
        return net;
    }

    /** The member asks, and all messages are carried until none is left. */
    static void ask(TalkNet net, int group, int member, boolean emergency) {
        net.press(group, member, emergency);
        carryAll(net);
    }

    static void carryAll(TalkNet net) {
        while (net.messages() > 0) {
            net.run(200);
        }
    }

    static void dropAll(TalkNet net) {
        while (net.messages() > 0) {
            net.drop(0);
        }
    }

    static int ticks(TalkNet net, int count) {
        int time = 0;
        for (int i = 0; i < count; i++) {
            time = net.tick();
        }
        return time;
    }
}
