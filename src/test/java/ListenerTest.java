/** Promise 19, whats 8 to 14: spurts, what is played, gaps, and what is late. */
public final class ListenerTest {
    public static void main(String[] args) {
        playsInOrder();
        beginsWithWhatComesFirst();
        turnedRound();
        windowOfSixteen();
        windowFromOneThatIsMissing();
        windowMovesOn();
        repeatedIsLate();
        fourGapsEndASpurt();
        gapsMustBeOneBehindTheOther();
        newSpurtForgets();
        olderSpurtIsLate();
        leavingEndsASpurt();
        sumWraps();
        Check.end();
    }

    private static final int LISTENER = 1;

    /** Member 0 talks, member 1 listens; nobody is cut off before 100 ticks. */
    private static TalkNet talking() {
        TalkNet net = new TalkNet();
        net.rules(0, true, 100, 50, 20);
        net.member(0, 0, 0);
        net.member(0, LISTENER, 0);
        Check.ask(net, 0, 0, false);
        return net;
    }

    /** Units with these values are passed: afterwards a PASSED for each is on its way. */
    private static void pass(TalkNet net, int... values) {
        for (int value : values) {
            net.unit(0, 0, value);
            net.carry(net.messages() - 1);
        }
    }

    private static void passed(TalkNet net, int from, int to) {
        for (int i = from; i <= to; i++) {
            pass(net, i);
        }
    }

    private static void spurt(String what, TalkNet net, String want) {
        Check.due(what, Check.about(net, 0, LISTENER, 8, 14), want);
    }

    private static void playsInOrder() {
        TalkNet net = talking();
        Check.ticks(net, 3);
        pass(net, 5, 6, 7);
        spurt("nothing came yet", net, "0 0 0 0 0 0 0");
        Check.carryAll(net);
        spurt("begun", net, "1 1 0 0 0 0 0");
        net.tick();
        spurt("since one tick", net, "1 1 0 0 0 0 0");
        net.tick();
        spurt("since two ticks", net, "1 1 1 1 0 0 5");
        Check.carryAll(net);
        net.tick();
        spurt("next", net, "1 1 2 2 0 0 161");
        net.tick();
        spurt("next", net, "1 1 3 3 0 0 4998");
        net.tick();
        spurt("a gap", net, "1 1 4 3 1 0 154937");
        Check.due("the talker hears itself not", Check.about(net, 0, 0, 8, 14), "0 0 0 0 0 0 0");
    }

    private static void beginsWithWhatComesFirst() {
        TalkNet net = talking();
        passed(net, 0, 6);
        net.carry(5);
        spurt("b is next", net, "1 1 5 0 0 0 0");
        Check.carryAll(net);
        spurt("those below are late", net, "1 1 5 0 0 5 0");
        Check.ticks(net, 3);
        spurt("those above are played", net, "1 1 7 2 0 5 161");
    }

    private static void turnedRound() {
        TalkNet net = talking();
        pass(net, 10, 20, 30, 40);
        net.carry(0);
        net.carry(2);
        net.carry(1);
        Check.ticks(net, 3);
        spurt("the second is a gap", net, "1 1 2 1 1 0 309");
        net.carry(0);
        spurt("and is late", net, "1 1 2 1 1 1 309");
        Check.ticks(net, 2);
        spurt("the others", net, "1 1 4 3 1 1 " + ((309 * 31 + 30) * 31 + 40));
    }

    private static void windowOfSixteen() {
        TalkNet net = talking();
        passed(net, 0, 17);
        net.carry(0);
        net.carry(14);
        spurt("15 above is kept", net, "1 1 0 0 0 0 0");
        net.carry(14);
        spurt("16 above is late", net, "1 1 0 0 0 1 0");
        net.carry(14);
        spurt("17 above is late", net, "1 1 0 0 0 2 0");
        Check.carryAll(net);
        Check.ticks(net, 17);
        spurt("16 were played", net, "1 1 16 16 0 2 " + sumOf(0, 15));
        net.tick();
        spurt("a gap for the one that came too early", net, "1 1 17 16 1 2 " + (sumOf(0, 15) * 31 - 1));
    }

    private static void windowFromOneThatIsMissing() {
        TalkNet net = talking();
        passed(net, 0, 17);
        net.carry(0);
        Check.ticks(net, 2);
        net.twice(16);
        spurt("16 above one that is not kept is late", net, "1 1 1 1 0 1 0");
        net.carry(15);
        spurt("15 above it is kept", net, "1 1 1 1 0 1 0");
    }

    private static int sumOf(int first, int last) {
        int sum = 0;
        for (int i = first; i <= last; i++) {
            sum = sum * 31 + i;
        }
        return sum;
    }

    private static void windowMovesOn() {
        TalkNet net = talking();
        passed(net, 0, 16);
        for (int i = 0; i < 16; i++) {
            net.carry(0);
        }
        Check.ticks(net, 2);
        net.twice(0);
        spurt("16 above what was next is kept now", net, "1 1 1 1 0 0 0");
        net.carry(0);
        spurt("kept already", net, "1 1 1 1 0 1 0");
        Check.ticks(net, 16);
        spurt("all are played", net, "1 1 17 17 0 1 " + sumOf(0, 16));
    }

    private static void repeatedIsLate() {
        TalkNet net = talking();
        pass(net, 3);
        net.twice(0);
        net.twice(0);
        spurt("kept already", net, "1 1 0 0 0 1 0");
        Check.ticks(net, 2);
        net.twice(0);
        spurt("played already", net, "1 1 1 1 0 2 3");
    }

    private static void fourGapsEndASpurt() {
        TalkNet net = talking();
        pass(net, 2);
        Check.carryAll(net);
        Check.ticks(net, 5);
        spurt("three gaps", net, "1 1 4 1 3 0 " + gaps(2, 3));
        net.tick();
        spurt("four gaps", net, "1 0 5 1 4 0 " + gaps(2, 4));
        net.tick();
        spurt("it is over", net, "1 0 5 1 4 0 " + gaps(2, 4));
        Check.dropAll(net);
        passed(net, 1, 9);
        Check.carryAll(net);
        spurt("all of its grant are late", net, "1 0 5 1 4 9 " + gaps(2, 4));
    }

    private static int gaps(int sum, int count) {
        int result = sum;
        for (int i = 0; i < count; i++) {
            result = result * 31 - 1;
        }
        return result;
    }

    private static void gapsMustBeOneBehindTheOther() {
        TalkNet net = talking();
        passed(net, 0, 8);
        net.carry(0);
        net.carry(3);
        net.carry(6);
        Check.ticks(net, 10);
        spurt("three gaps, one, three gaps, one", net,
                "1 1 9 3 6 0 " + (gaps(gaps(0, 3) * 31 + 4, 3) * 31 + 8));
        Check.ticks(net, 3);
        Check.due("three more", net.about(0, LISTENER, 9), 1);
        net.tick();
        Check.due("four", net.about(0, LISTENER, 9), 0);
    }

    private static void grantAnew(TalkNet net) {
        net.release(0, 0);
        net.carry(net.messages() - 1);
        net.press(0, 0, false);
        net.carry(net.messages() - 1);
        for (int k = net.messages() - 1; k >= 0; k--) {
            if (net.message(k, 0) != 9) {
                net.twice(k);
                net.drop(k);
            }
        }
        Check.due("granted anew", net.about(0, 0, 2), 3);
    }

    private static void newSpurtForgets() {
        TalkNet net = talking();
        pass(net, 1, 2, 3);
        Check.carryAll(net);
        Check.ticks(net, 2);
        spurt("one is played", net, "1 1 1 1 0 0 1");
        grantAnew(net);
        pass(net, 50, 60);
        net.carry(1);
        spurt("a new spurt: what was kept is forgotten", net, "2 1 1 1 0 0 1");
        net.tick();
        spurt("since one tick", net, "2 1 1 1 0 0 1");
        Check.ticks(net, 4);
        spurt("one, and three gaps of its own", net, "2 1 5 2 3 0 " + gaps(91, 3));
        gapsAreCountedAnew();
    }

    private static void gapsAreCountedAnew() {
        TalkNet net = talking();
        pass(net, 1);
        Check.carryAll(net);
        Check.ticks(net, 5);
        spurt("three gaps", net, "1 1 4 1 3 0 " + gaps(1, 3));
        Check.dropAll(net);
        grantAnew(net);
        pass(net, 7, 8);
        net.carry(0);
        Check.dropAll(net);
        Check.ticks(net, 5);
        Check.due("three gaps of the new spurt", net.about(0, LISTENER, 9), 1);
        net.tick();
        Check.due("four", net.about(0, LISTENER, 9), 0);
    }

    private static void olderSpurtIsLate() {
        TalkNet net = talking();
        pass(net, 1, 2);
        grantAnew(net);
        pass(net, 5);
        net.carry(2);
        spurt("the newer comes first", net, "2 1 0 0 0 0 0");
        Check.carryAll(net);
        spurt("the older are late", net, "2 1 0 0 0 2 0");
        Check.ticks(net, 2);
        spurt("the newer is played", net, "2 1 1 1 0 2 5");
    }

    private static void leavingEndsASpurt() {
        TalkNet net = talking();
        pass(net, 1, 2, 3);
        net.carry(0);
        net.leave(0, LISTENER);
        Check.ticks(net, 3);
        spurt("over", net, "1 0 0 0 0 0 0");
        net.carry(0);
        net.member(0, LISTENER, 0);
        net.carry(0);
        spurt("there again: late", net, "1 0 0 0 0 1 0");
        Check.ticks(net, 3);
        spurt("nothing is played", net, "1 0 0 0 0 1 0");
    }

    private static void sumWraps() {
        TalkNet net = talking();
        pass(net, Integer.MAX_VALUE, Integer.MIN_VALUE, -1);
        Check.carryAll(net);
        Check.ticks(net, 4);
        int want = (Integer.MAX_VALUE * 31 + Integer.MIN_VALUE) * 31 - 1;
        spurt("as an int", net, "1 1 3 3 0 0 " + want);
    }
}
