import java.util.Arrays;

/**
 * Promise 19: "(What is told stays until it is something else.)": each act of a member, and each message that comes to
 * it, changes what the document says that it changes, and nothing else that is told of the member, now or later.
 */
public final class StaysTest {
    private static final int MEMBER = 1;
    private static final int OLD_TALKER = 0;
    private static final int FIRST_PASSED = 1;
    // Behind the old TALKER and the six PASSED stands what an act or its preparation sends.
    private static final int NEXT = 7;

    private interface Step {
        void on(TalkNet net);
    }

    public static void main(String[] args) {
        theMember();
        acts();
        answers();
        endsOfAGrant();
        talkers();
        whatOthersHear();
        leaving();
        Check.end();
    }

    /**
     * Member 1 was queued at place 1, had grant 2 with two units and released; it sees member 0 talk, who holds by
     * grant 3. On their way are a TALKER of grant 1, and six PASSED of grant 3 with values 10 .. 15.
     */
    private static TalkNet told() {
        TalkNet net = Check.with(0, 3, 3);
        net.rules(0, true, 100, 50, 20);
        net.press(0, 2, false);
        net.carry(0);
        dropAt(net, 0, 3);
        net.press(0, 0, false);
        net.carry(1);
        dropAt(net, 1, 1);
        net.press(0, MEMBER, false);
        net.carry(1);
        net.carry(1);
        net.leave(0, 0);
        net.member(0, 0, 3);
        net.leave(0, 2);
        net.carry(1);
        net.unit(0, MEMBER, 5);
        net.unit(0, MEMBER, 6);
        dropAt(net, 1, 4);
        net.press(0, 0, false);
        net.carry(1);
        dropAt(net, 1, 1);
        net.release(0, MEMBER);
        for (int i = 0; i < 4; i++) {
            net.carry(1);
        }
        for (int i = 0; i < 6; i++) {
            net.unit(0, 0, 10 + i);
            net.carry(1 + i);
        }
        return net;
    }

    private static void dropAt(TalkNet net, int k, int count) {
        for (int i = 0; i < count; i++) {
            net.drop(k);
        }
    }

    private static void theMember() {
        TalkNet net = told();
        Check.due("about", Check.about(net, 0, MEMBER), "1 3 0 1 1 2 2 0 0 0 0 0 0 0 0");
        Check.due("server", Check.server(net, 0), "3 0 0 0 0 0");
        Check.due("row", Check.row(net), "8/0/1(1,2,0) 9/0/1(3,0,10) 9/0/1(3,1,11) 9/0/1(3,2,12) 9/0/1(3,3,13)"
                + " 9/0/1(3,4,14) 9/0/1(3,5,15)");
    }

    /** The event, in each of four spurts, changes what is told of these whats to these values, and nothing else. */
    private static void changes(String what, Step ready, Step event, int... whatsAndValues) {
        spurtThatJustBegan(what, ready, event, whatsAndValues);
        spurtInTwoGaps(what + ", one is kept", true, ready, event, whatsAndValues);
        spurtInTwoGaps(what + ", none is kept", false, ready, event, whatsAndValues);
        spurtThatIsOver(what, ready, event, whatsAndValues);
    }

    private static void spurtThatJustBegan(String what, Step ready, Step event, int... whatsAndValues) {
        TalkNet net = told();
        ready.on(net);
        Check.ticks(net, 3);
        net.twice(FIRST_PASSED);
        net.twice(FIRST_PASSED);
        eventChanges(what, net, event, whatsAndValues);
        net.tick();
        spurt(what + ", since one tick", net, "3 1 0 0 0 1 0");
        net.tick();
        spurt(what + ", since two ticks", net, "3 1 1 1 0 1 10");
    }

    private static final int TWO_GAPS = ((10 * 31 + 11) * 31 - 1) * 31 - 1;
    private static final int THREE_GAPS = TWO_GAPS * 31 - 1;
    private static final int FOUR_GAPS = THREE_GAPS * 31 - 1;

    /** Units 0 and 1 come, 0 comes again; five ticks later both are played, and 2 and 3 are gaps. */
    private static TalkNet twoGaps(boolean kept, Step ready) {
        TalkNet net = told();
        ready.on(net);
        net.twice(FIRST_PASSED);
        net.twice(FIRST_PASSED);
        net.twice(FIRST_PASSED + 1);
        if (kept) {
            net.twice(FIRST_PASSED + 5);
        }
        Check.ticks(net, 5);
        return net;
    }

    private static void spurtInTwoGaps(String what, boolean kept, Step ready, Step event, int... whatsAndValues) {
        TalkNet net = twoGaps(kept, ready);
        spurt(what + ", two gaps", net, "3 1 4 2 2 1 " + TWO_GAPS);
        eventChanges(what, net, event, whatsAndValues);
        net.tick();
        spurt(what + ", three gaps", net, "3 1 5 2 3 1 " + THREE_GAPS);
        net.tick();
        spurt(what + ", the next", net, kept ? "3 1 6 3 3 1 " + (THREE_GAPS * 31 + 15) : "3 0 6 2 4 1 " + FOUR_GAPS);
    }

    private static void spurtThatIsOver(String what, Step ready, Step event, int... whatsAndValues) {
        TalkNet net = twoGaps(false, ready);
        Check.ticks(net, 2);
        spurt(what + ", four gaps", net, "3 0 6 2 4 1 " + FOUR_GAPS);
        eventChanges(what, net, event, whatsAndValues);
        net.tick();
        spurt(what + ", it stays over", net, "3 0 6 2 4 1 " + FOUR_GAPS);
    }

    private static void eventChanges(String what, TalkNet net, Step event, int... whatsAndValues) {
        int[] due = about(net);
        Check.due(what + ", before: its priority, and whom it sees", due[1] + " " + due[7], "3 0");
        event.on(net);
        for (int i = 0; i < whatsAndValues.length; i += 2) {
            due[whatsAndValues[i]] = whatsAndValues[i + 1];
        }
        Check.due(what, text(about(net)), text(due));
        net.twice(OLD_TALKER);
        Check.due(what + ", then a TALKER of an older grant", net.about(0, MEMBER, 7), due[7]);
        if (due[2] == 1 || due[2] == 2) {
            net.again(0, MEMBER);
            Check.due(what + ", then again", Check.message(net, net.messages() - 1), "1/0/1(2,0,0)");
        }
    }

    private static int[] about(TalkNet net) {
        int[] all = new int[15];
        for (int what = 0; what < 15; what++) {
            all[what] = net.about(0, MEMBER, what);
        }
        return all;
    }

    private static String text(int[] numbers) {
        return Arrays.toString(numbers);
    }

    private static void spurt(String what, TalkNet net, String want) {
        Check.due(what, Check.about(net, 0, MEMBER, 8, 14), want);
    }

    private static void nothing(TalkNet net) {
        // The act needs no preparation.
    }

    private static void asked(TalkNet net) {
        net.press(0, MEMBER, false);
    }

    private static void queued(TalkNet net) {
        asked(net);
        net.carry(NEXT);
    }

    private static void granted(TalkNet net) {
        queued(net);
        dropAt(net, NEXT, 1);
        net.release(0, 0);
        net.carry(NEXT);
    }

    private static void talking(TalkNet net) {
        granted(net);
        net.carry(NEXT);
        dropAt(net, NEXT, 2);
        net.unit(0, MEMBER, 7);
        dropAt(net, NEXT, 1);
    }

    private static void revoked(TalkNet net) {
        talking(net);
        net.member(0, 3, 7);
        net.press(0, 3, true);
        net.carry(NEXT);
        dropAt(net, NEXT, 1);
    }

    private static void ended(TalkNet net) {
        net.rules(0, true, 1, 50, 20);
        talking(net);
        net.tick();
    }

    private static void denied(TalkNet net) {
        for (int m = 2; m <= 5; m++) {
            net.member(0, m, 0);
            net.press(0, m, false);
            net.carry(NEXT);
            dropAt(net, NEXT, 1);
        }
        queued(net);
    }

    /** Member 3 is granted the floor: the last of what is sent is TALKER to member 1. */
    private static void another(TalkNet net) {
        net.member(0, 3, 0);
        net.press(0, 3, false);
        net.carry(NEXT);
        dropAt(net, NEXT, 1);
        net.release(0, 0);
        net.carry(NEXT);
        dropAt(net, NEXT, 3);
    }

    private static void comes(TalkNet net) {
        net.twice(NEXT);
    }

    private static void releases(TalkNet net) {
        net.release(0, MEMBER);
    }

    private static void talks(TalkNet net) {
        net.unit(0, MEMBER, 8);
    }

    private static void acts() {
        changes("member", StaysTest::nothing, net -> net.member(0, MEMBER, 6), 1, 6);
        changes("press", StaysTest::nothing, StaysTest::asked, 2, 1, 3, 2);
        changes("again, asked", StaysTest::asked, net -> net.again(0, MEMBER));
        changes("release, asked", StaysTest::asked, StaysTest::releases, 2, 0);
        changes("again, queued", net -> { queued(net); comes(net); }, net -> net.again(0, MEMBER));
        changes("release, queued", net -> { queued(net); comes(net); }, StaysTest::releases, 2, 0);
        changes("unit, granted", StaysTest::talking, StaysTest::talks, 6, 2);
        changes("release, granted", StaysTest::talking, StaysTest::releases, 2, 0);
        changes("unit, revoked", net -> { revoked(net); comes(net); }, StaysTest::talks, 6, 2);
        changes("release, revoked", net -> { revoked(net); comes(net); }, StaysTest::releases, 2, 0);
    }

    private static void answers() {
        changes("QUEUED", StaysTest::queued, StaysTest::comes, 2, 2, 4, 0);
        changes("QUEUED again", net -> { queued(net); comes(net); }, StaysTest::comes);
        changes("GRANTED", StaysTest::granted, StaysTest::comes, 2, 3, 5, 4, 6, 0);
        changes("GRANTED again", net -> { granted(net); comes(net); }, StaysTest::comes);
        changes("DENIED", StaysTest::denied, StaysTest::comes, 2, 0);
        changes("DENIED again", net -> { denied(net); comes(net); }, StaysTest::comes);
    }

    private static void endsOfAGrant() {
        changes("REVOKED", StaysTest::revoked, StaysTest::comes, 2, 4);
        changes("REVOKED again", net -> { revoked(net); comes(net); }, StaysTest::comes);
        changes("ENDED", StaysTest::ended, StaysTest::comes, 2, 0);
        changes("ENDED again", net -> { ended(net); comes(net); }, StaysTest::comes);
    }

    private static void talkers() {
        changes("TALKER", StaysTest::another, StaysTest::comes, 7, 3);
        changes("TALKER to one that asked", net -> { another(net); asked(net); }, StaysTest::comes, 7, 3);
        changes("TALKER of an older grant", StaysTest::nothing, net -> net.twice(OLD_TALKER));
        changes("TALKER of an older grant to one that asked", StaysTest::asked, net -> net.twice(OLD_TALKER));
    }

    /** What comes to the server and to the relay changes nothing that is told of a member. */
    private static void whatOthersHear() {
        changes("REQUEST", StaysTest::asked, StaysTest::comes);
        changes("RELEASE", net -> { asked(net); releases(net); dropAt(net, NEXT, 1); }, StaysTest::comes);
        changes("GATE of nobody", net -> { net.release(0, 0); net.carry(NEXT); }, StaysTest::comes);
        changes("UNIT", net -> net.unit(0, 0, 16), StaysTest::comes);
    }

    /** "when it leaves, its state is none, its spurt is over": all else stays, for one that is not there, and there again. */
    private static void leaving() {
        TalkNet net = twoGaps(true, StaysTest::talking);
        Check.due("talking", Check.about(net, 0, MEMBER), "1 3 3 2 1 4 1 0 3 1 4 2 2 1 " + TWO_GAPS);
        net.leave(0, MEMBER);
        Check.due("gone", Check.about(net, 0, MEMBER), "0 3 0 2 1 4 1 0 3 0 4 2 2 1 " + TWO_GAPS);
        net.twice(FIRST_PASSED + 2);
        net.twice(OLD_TALKER);
        net.tick();
        Check.due("it hears nothing", Check.about(net, 0, MEMBER), "0 3 0 2 1 4 1 0 3 0 4 2 2 1 " + TWO_GAPS);
        net.member(0, MEMBER, 4);
        net.twice(OLD_TALKER);
        net.tick();
        Check.due("there again", Check.about(net, 0, MEMBER), "1 4 0 2 1 4 1 0 3 0 4 2 2 1 " + TWO_GAPS);
    }
}
