import java.util.NoSuchElementException;

/** Every exception that a call names, which one comes first, and that such a call changes nothing. */
public final class RefusedTest {
    private static final Class<NoSuchElementException> NONE = NoSuchElementException.class;
    private static final Class<IllegalArgumentException> ARGUMENT = IllegalArgumentException.class;
    private static final Class<IllegalStateException> STATE = IllegalStateException.class;
    private static final Class<IndexOutOfBoundsException> INDEX = IndexOutOfBoundsException.class;
    private static final Class<UnsupportedOperationException> FULL = UnsupportedOperationException.class;

    private static final int[] WRONG_GROUPS = {-1, 3, Integer.MIN_VALUE, Integer.MAX_VALUE};
    private static final int[] WRONG_MEMBERS = {-1, 6, Integer.MIN_VALUE, Integer.MAX_VALUE};

    public static void main(String[] args) {
        noSuchGroup();
        noSuchMember();
        noSuchMessage();
        numbersOutOfBounds();
        boundsThemselves();
        anotherWhat();
        notThere();
        wrongState();
        tooManyUnits();
        Check.end();
    }

    /** Two members there, one holds, one waits, and there is a message on its way. */
    private static TalkNet busy() {
        TalkNet net = Check.with(0, 2, 4);
        Check.ask(net, 0, 0, false);
        Check.ask(net, 0, 1, false);
        net.unit(0, 0, 8);
        return net;
    }

    private static void noSuchGroup() {
        TalkNet net = busy();
        for (int g : WRONG_GROUPS) {
            Check.refused(net, "rules " + g, NONE, () -> net.rules(g, true, 0, 0, -1));
            Check.refused(net, "member " + g, NONE, () -> net.member(g, 0, 9));
            Check.refused(net, "leave " + g, NONE, () -> net.leave(g, 0));
            Check.refused(net, "press " + g, NONE, () -> net.press(g, 0, true));
            Check.refused(net, "again " + g, NONE, () -> net.again(g, 0));
            Check.refused(net, "release " + g, NONE, () -> net.release(g, 0));
            Check.refused(net, "unit " + g, NONE, () -> net.unit(g, 0, 1));
            Check.refused(net, "server " + g, NONE, () -> net.server(g, 9));
            Check.refused(net, "waiting " + g, NONE, () -> net.waiting(g, -1));
            Check.refused(net, "relay " + g, NONE, () -> net.relay(g, 9));
            Check.refused(net, "about " + g, NONE, () -> net.about(g, 0, 99));
        }
    }

    private static void noSuchMember() {
        TalkNet net = busy();
        for (int m : WRONG_MEMBERS) {
            Check.refused(net, "member 0 " + m, NONE, () -> net.member(0, m, 9));
            Check.refused(net, "leave 0 " + m, NONE, () -> net.leave(0, m));
            Check.refused(net, "press 0 " + m, NONE, () -> net.press(0, m, true));
            Check.refused(net, "again 0 " + m, NONE, () -> net.again(0, m));
            Check.refused(net, "release 0 " + m, NONE, () -> net.release(0, m));
            Check.refused(net, "unit 0 " + m, NONE, () -> net.unit(0, m, 1));
            Check.refused(net, "about 0 " + m, NONE, () -> net.about(0, m, 99));
        }
    }

    private static void noSuchMessage() {
        TalkNet net = busy();
        for (int k : new int[] {-1, 1, 60, Integer.MIN_VALUE, Integer.MAX_VALUE}) {
            Check.refused(net, "message " + k, NONE, () -> net.message(k, 9));
            Check.refused(net, "carry " + k, NONE, () -> net.carry(k));
            Check.refused(net, "twice " + k, NONE, () -> net.twice(k));
            Check.refused(net, "drop " + k, NONE, () -> net.drop(k));
        }
        net.drop(0);
        Check.refused(net, "message of an empty row", NONE, () -> net.message(0, 0));
        Check.refused(net, "carry of an empty row", NONE, () -> net.carry(0));
    }

    private static void numbersOutOfBounds() {
        TalkNet net = busy();
        for (int longest : new int[] {0, 101, Integer.MIN_VALUE, Integer.MAX_VALUE}) {
            Check.refused(net, "longest " + longest, ARGUMENT, () -> net.rules(0, true, longest, 1, 0));
        }
        for (int idle : new int[] {0, 51, Integer.MIN_VALUE, Integer.MAX_VALUE}) {
            Check.refused(net, "idle " + idle, ARGUMENT, () -> net.rules(0, true, 1, idle, 0));
        }
        for (int grace : new int[] {-1, 21, Integer.MIN_VALUE, Integer.MAX_VALUE}) {
            Check.refused(net, "grace " + grace, ARGUMENT, () -> net.rules(0, true, 1, 1, grace));
        }
        for (int priority : new int[] {-1, 8, Integer.MIN_VALUE, Integer.MAX_VALUE}) {
            Check.refused(net, "priority " + priority, ARGUMENT, () -> net.member(0, 5, priority));
        }
        for (int n : new int[] {-1, 201, Integer.MIN_VALUE, Integer.MAX_VALUE}) {
            Check.refused(net, "run " + n, ARGUMENT, () -> net.run(n));
        }
        rulesThatWereRefusedDoNotHold();
    }

    private static void rulesThatWereRefusedDoNotHold() {
        TalkNet net = Check.with(0, 1, 0);
        Check.refused(net, "rules", ARGUMENT, () -> net.rules(0, true, 1, 1, 21));
        Check.ask(net, 0, 0, false);
        Check.ticks(net, 19);
        Check.due("the first rules hold", net.server(0, 1), 0);
    }

    private static void boundsThemselves() {
        TalkNet net = new TalkNet();
        net.rules(0, false, 1, 1, 0);
        net.rules(2, true, 100, 50, 20);
        net.member(0, 0, 0);
        net.member(2, 5, 7);
        Check.due("priority 0", net.about(0, 0, 1), 0);
        Check.due("priority 7", net.about(2, 5, 1), 7);
        Check.due("run 0", net.run(0), 0);
        Check.due("run 200", net.run(200), 0);
    }

    private static void anotherWhat() {
        TalkNet net = busy();
        for (int what : new int[] {-1, 6, Integer.MIN_VALUE, Integer.MAX_VALUE}) {
            Check.refused(net, "message 0 " + what, INDEX, () -> net.message(0, what));
            Check.refused(net, "server 0 " + what, INDEX, () -> net.server(0, what));
        }
        for (int what : new int[] {-1, 4, Integer.MIN_VALUE, Integer.MAX_VALUE}) {
            Check.refused(net, "relay 0 " + what, INDEX, () -> net.relay(0, what));
        }
        for (int what : new int[] {-1, 15, Integer.MIN_VALUE, Integer.MAX_VALUE}) {
            Check.refused(net, "about 0 0 " + what, INDEX, () -> net.about(0, 0, what));
        }
        for (int place : new int[] {-1, 1, 4, Integer.MIN_VALUE, Integer.MAX_VALUE}) {
            Check.refused(net, "waiting 0 " + place, INDEX, () -> net.waiting(0, place));
        }
        Check.due("waiting 0 0", net.waiting(0, 0), 1);
    }

    private static void notThere() {
        TalkNet net = busy();
        net.leave(0, 0);
        for (int m : new int[] {0, 3}) {
            Check.refused(net, "press by " + m, STATE, () -> net.press(0, m, false));
            Check.refused(net, "again by " + m, STATE, () -> net.again(0, m));
            Check.refused(net, "release by " + m, STATE, () -> net.release(0, m));
            Check.refused(net, "unit by " + m, STATE, () -> net.unit(0, m, 1));
        }
    }

    private static void wrongState() {
        TalkNet net = Check.with(0, 3, 0);
        net.rules(0, true, 50, 50, 20);
        net.member(0, 1, 1);
        Check.refused(net, "again in none", STATE, () -> net.again(0, 0));
        Check.refused(net, "release in none", STATE, () -> net.release(0, 0));
        Check.refused(net, "unit in none", STATE, () -> net.unit(0, 0, 1));
        net.press(0, 0, false);
        Check.refused(net, "press when asked", STATE, () -> net.press(0, 0, false));
        Check.refused(net, "unit when asked", STATE, () -> net.unit(0, 0, 1));
        Check.carryAll(net);
        Check.refused(net, "press when granted", STATE, () -> net.press(0, 0, false));
        Check.refused(net, "again when granted", STATE, () -> net.again(0, 0));
        Check.ask(net, 0, 1, false);
        Check.due("the first is revoked", net.about(0, 0, 2), 4);
        Check.refused(net, "press when revoked", STATE, () -> net.press(0, 0, false));
        Check.refused(net, "again when revoked", STATE, () -> net.again(0, 0));
        Check.due("the second is queued", net.about(0, 1, 2), 2);
        Check.refused(net, "press when queued", STATE, () -> net.press(0, 1, false));
        Check.refused(net, "unit when queued", STATE, () -> net.unit(0, 1, 1));
    }

    private static void tooManyUnits() {
        TalkNet net = Check.with(0, 1, 0);
        Check.ask(net, 0, 0, false);
        for (int i = 0; i < 64; i++) {
            Check.due("unit " + i, net.unit(0, 0, i), i);
            net.drop(0);
        }
        Check.refused(net, "unit 64", FULL, () -> net.unit(0, 0, 64));
        net.release(0, 0);
        Check.refused(net, "unit 64 in none", STATE, () -> net.unit(0, 0, 64));
        Check.ask(net, 0, 0, false);
        Check.due("a new grant's first unit", net.unit(0, 0, 1), 0);
    }
}
