/** Promise 19, whats 8 to 14: spurts, what is played, gaps, and what is late. */
public final class ListenerTest {
    public static void main(String[] args) {
        playsInOrder();
        eachMemberPlays();
        playsSinceTwoTicks();
        beginsWithWhatComesFirst();
        beginsWithTheLastNumber();
        turnedRound();
        belowWhatIsNextIsLate();
        windowOfSixteen();
        windowFromOneThatIsMissing();
        windowMovesOn();
        keptAlreadyIsLate();
        playedAlreadyIsLate();
        fourGapsEndASpurt();
        gapsMustBeOneBehindTheOther();
        equalWhenItDoesNotGoOnIsLate();
        aboveBeginsASpurt();
        aboveBeginsASpurtWhenTheFormerIsOver();
        newSpurtForgets();
        newSpurtForgetsAllOfTheWindow();
        gapsAreCountedAnew();
        gapsGoOnWhenOthersCome();
        olderOnesChangeNothingElse();
        belowTheGrantIsLate();
        sumOfGaps();
        sumWraps();
        Check.end();
    }

    private static final int LISTENER = 1;

    /** Member 0 talks, member 1 listens; nobody is cut off before 100 ticks. */
    private static TalkNet talking() {
        TalkNet net = new TalkNet();
        net.rules(0, true, 100, 50, 20);
        net.member(0, 0, 0);
        net.member(0, LISTENER, 0);
        Check.ask(net, 0, 0, false);
        return net;
    }

    /** Units with these values are passed: afterwards a PASSED for each is on its way. */
    private static void pass(TalkNet net, int... values) {
        for (int value : values) {
            net.unit(0, 0, value);
            net.carry(net.messages() - 1);
        }
    }

    private static void passed(TalkNet net, int from, int to) {
        for (int i = from; i <= to; i++) {
            pass(net, i);
        }
    }

    private static void spurt(String what, TalkNet net, String want) {
        Check.due(what, Check.about(net, 0, LISTENER, 8, 14), want);
    }

    /** Promise 19: "10 what is next, 11 units played, 12 gaps, 13 late ones, 14 a sum". */
    private static void playsInOrder() {
        TalkNet net = talking();
        Check.ticks(net, 3);
        pass(net, 5, 6, 7);
        spurt("nothing came yet", net, "0 0 0 0 0 0 0");
        Check.carryAll(net);
        spurt("begun", net, "1 1 0 0 0 0 0");
        net.tick();
        spurt("since one tick", net, "1 1 0 0 0 0 0");
        net.tick();
        spurt("since two ticks", net, "1 1 1 1 0 0 5");
        Check.carryAll(net);
        net.tick();
        spurt("next", net, "1 1 2 2 0 0 161");
        net.tick();
        spurt("next", net, "1 1 3 3 0 0 4998");
        net.tick();
        spurt("a gap", net, "1 1 4 3 1 0 154937");
        Check.due("the talker hears itself not", Check.about(net, 0, 0, 8, 14), "0 0 0 0 0 0 0");
    }

    /** "A LISTENER, each member": of each group, those that are there and do not talk. */
    private static void eachMemberPlays() {
        for (int g = 0; g < Check.GROUPS; g++) {
            TalkNet net = Check.with(g, Check.MEMBERS, 0);
            int talker = 2 * g;
            Check.ask(net, g, talker, false);
            net.unit(g, talker, 8);
            Check.carryAll(net);
            Check.ticks(net, 3);
            for (int m = 0; m < Check.MEMBERS; m++) {
                Check.due("member " + m + " of group " + g, Check.about(net, g, m, 8, 14),
                        m == talker ? "0 0 0 0 0 0 0" : "1 1 2 1 1 0 247");
            }
        }
    }

    /** "whose spurt goes on since 2 ticks or more plays": since the tick in which it began, not since a later unit. */
    private static void playsSinceTwoTicks() {
        for (int begins = 0; begins <= 3; begins++) {
            TalkNet net = talking();
            Check.ticks(net, begins);
            pass(net, 9, 8);
            net.carry(0);
            net.tick();
            net.carry(0);
            spurt("since 1 tick, begun at " + begins, net, "1 1 0 0 0 0 0");
            net.tick();
            spurt("since 2 ticks, begun at " + begins, net, "1 1 1 1 0 0 9");
            net.tick();
            spurt("since 3 ticks, begun at " + begins, net, "1 1 2 2 0 0 287");
        }
    }

    /** "Above: a new spurt begins in this tick: b is next, nothing is kept." */
    private static void beginsWithWhatComesFirst() {
        TalkNet net = talking();
        passed(net, 0, 6);
        net.carry(5);
        spurt("b is next", net, "1 1 5 0 0 0 0");
        Check.carryAll(net);
        spurt("those below are late", net, "1 1 5 0 0 5 0");
        Check.ticks(net, 3);
        spurt("those above are played", net, "1 1 7 2 0 5 161");
    }

    private static void beginsWithTheLastNumber() {
        TalkNet net = talking();
        for (int i = 0; i < 63; i++) {
            net.unit(0, 0, i);
            net.drop(0);
        }
        pass(net, 5);
        Check.due("PASSED", Check.row(net), "9/0/1(1,63,5)");
        net.carry(0);
        spurt("63 is next", net, "1 1 63 0 0 0 0");
        Check.ticks(net, 2);
        spurt("it is played", net, "1 1 64 1 0 0 5");
        Check.ticks(net, 3);
        spurt("three gaps", net, "1 1 67 1 3 0 " + gaps(5, 3));
        net.tick();
        spurt("over", net, "1 0 68 1 4 0 " + gaps(5, 4));
    }

    private static void turnedRound() {
        TalkNet net = talking();
        pass(net, 10, 20, 30, 40);
        net.carry(0);
        net.carry(2);
        net.carry(1);
        Check.ticks(net, 3);
        spurt("the second is a gap", net, "1 1 2 1 1 0 309");
        net.carry(0);
        spurt("and is late", net, "1 1 2 1 1 1 309");
        Check.ticks(net, 2);
        spurt("the others", net, "1 1 4 3 1 1 " + ((309 * 31 + 30) * 31 + 40));
    }

    /** "b below what is next ...: late; otherwise it is kept" */
    private static void belowWhatIsNextIsLate() {
        TalkNet net = talking();
        pass(net, 10, 20, 30, 40, 50);
        net.carry(0);
        Check.ticks(net, 4);
        spurt("two gaps: 3 is next", net, "1 1 3 1 2 0 " + gaps(10, 2));
        Check.comes(net, "9/0/1(1,1,20)");
        spurt("two below", net, "1 1 3 1 2 1 " + gaps(10, 2));
        Check.comes(net, "9/0/1(1,2,30)");
        spurt("one below", net, "1 1 3 1 2 2 " + gaps(10, 2));
        Check.comes(net, "9/0/1(1,3,40)");
        spurt("what is next", net, "1 1 3 1 2 2 " + gaps(10, 2));
        Check.comes(net, "9/0/1(1,4,50)");
        Check.ticks(net, 2);
        spurt("and one above are kept, and played", net, "1 1 5 3 2 2 " + ((gaps(10, 2) * 31 + 40) * 31 + 50));
    }

    /** "or 16 or more above it" */
    private static void windowOfSixteen() {
        TalkNet net = talking();
        passed(net, 0, 17);
        net.carry(0);
        net.carry(14);
        spurt("15 above is kept", net, "1 1 0 0 0 0 0");
        net.carry(14);
        spurt("16 above is late", net, "1 1 0 0 0 1 0");
        net.carry(14);
        spurt("17 above is late", net, "1 1 0 0 0 2 0");
        Check.carryAll(net);
        Check.ticks(net, 17);
        spurt("16 were played", net, "1 1 16 16 0 2 " + sumOf(0, 15));
        net.tick();
        spurt("a gap for the one that came too early", net, "1 1 17 16 1 2 " + (sumOf(0, 15) * 31 - 1));
    }

    private static void windowFromOneThatIsMissing() {
        TalkNet net = talking();
        passed(net, 0, 17);
        net.carry(0);
        Check.ticks(net, 2);
        net.twice(16);
        spurt("16 above one that is not kept is late", net, "1 1 1 1 0 1 0");
        net.carry(15);
        spurt("15 above it is kept", net, "1 1 1 1 0 1 0");
    }

    private static int sumOf(int first, int last) {
        int sum = 0;
        for (int i = first; i <= last; i++) {
            sum = sum * 31 + i;
        }
        return sum;
    }

    private static void windowMovesOn() {
        TalkNet net = talking();
        passed(net, 0, 16);
        for (int i = 0; i < 16; i++) {
            net.carry(0);
        }
        Check.ticks(net, 2);
        net.twice(0);
        spurt("16 above what was next is kept now", net, "1 1 1 1 0 0 0");
        net.carry(0);
        spurt("kept already", net, "1 1 1 1 0 1 0");
        Check.ticks(net, 16);
        spurt("all are played", net, "1 1 17 17 0 1 " + sumOf(0, 16));
    }

    /** "or kept already: late" */
    private static void keptAlreadyIsLate() {
        TalkNet net = talking();
        pass(net, 3, 4);
        net.twice(0);
        spurt("the first", net, "1 1 0 0 0 0 0");
        net.twice(0);
        spurt("the first again", net, "1 1 0 0 0 1 0");
        net.twice(1);
        spurt("the second", net, "1 1 0 0 0 1 0");
        net.twice(1);
        spurt("the second again", net, "1 1 0 0 0 2 0");
        Check.ticks(net, 3);
        spurt("each is played once", net, "1 1 2 2 0 2 97");
    }

    private static void playedAlreadyIsLate() {
        TalkNet net = talking();
        pass(net, 3);
        net.twice(0);
        Check.ticks(net, 2);
        net.twice(0);
        spurt("it is below what is next", net, "1 1 1 1 0 1 3");
        net.tick();
        spurt("and is not played again", net, "1 1 2 1 1 1 92");
    }

    /** "with four gaps one behind the other the spurt is over" */
    private static void fourGapsEndASpurt() {
        TalkNet net = talking();
        pass(net, 2);
        Check.carryAll(net);
        Check.ticks(net, 5);
        spurt("three gaps", net, "1 1 4 1 3 0 " + gaps(2, 3));
        net.tick();
        spurt("four gaps", net, "1 0 5 1 4 0 " + gaps(2, 4));
        net.tick();
        spurt("it is over", net, "1 0 5 1 4 0 " + gaps(2, 4));
        Check.dropAll(net);
        passed(net, 1, 9);
        Check.carryAll(net);
        spurt("all of its grant are late", net, "1 0 5 1 4 9 " + gaps(2, 4));
    }

    private static int gaps(int sum, int count) {
        int result = sum;
        for (int i = 0; i < count; i++) {
            result = result * 31 - 1;
        }
        return result;
    }

    private static void gapsMustBeOneBehindTheOther() {
        TalkNet net = talking();
        passed(net, 0, 8);
        net.carry(0);
        net.carry(3);
        net.carry(6);
        Check.ticks(net, 10);
        spurt("three gaps, one, three gaps, one", net,
                "1 1 9 3 6 0 " + (gaps(gaps(0, 3) * 31 + 4, 3) * 31 + 8));
        Check.ticks(net, 3);
        Check.due("three more", net.about(0, LISTENER, 9), 1);
        net.tick();
        Check.due("four", net.about(0, LISTENER, 9), 0);
    }

    private static void grantAnew(TalkNet net) {
        net.release(0, 0);
        net.carry(net.messages() - 1);
        net.press(0, 0, false);
        net.carry(net.messages() - 1);
        for (int k = net.messages() - 1; k >= 0; k--) {
            if (net.message(k, 0) != 9) {
                net.twice(k);
                net.drop(k);
            }
        }
        Check.due("granted anew", net.about(0, 0, 2), 3);
    }

    /** "or equal when that does not go on: it is late" */
    private static void equalWhenItDoesNotGoOnIsLate() {
        TalkNet net = talking();
        pass(net, 1, 2, 3, 4, 5, 6, 7);
        net.carry(0);
        Check.ticks(net, 5);
        Check.comes(net, "9/0/1(1,4,5)");
        spurt("three gaps, it goes on: kept", net, "1 1 4 1 3 0 " + gaps(1, 3));
        net.tick();
        spurt("played", net, "1 1 5 2 3 0 " + (gaps(1, 3) * 31 + 5));
        Check.ticks(net, 4);
        int sum = gaps(gaps(1, 3) * 31 + 5, 4);
        spurt("four gaps, it is over", net, "1 0 9 2 7 0 " + sum);
        pass(net, 8, 9, 10);
        Check.comes(net, "9/0/1(1,9,10)");
        spurt("what is next is late", net, "1 0 9 2 7 1 " + sum);
        Check.ticks(net, 3);
        spurt("and is not played", net, "1 0 9 2 7 1 " + sum);
    }

    /** "Above: a new spurt begins in this tick" */
    private static void aboveBeginsASpurt() {
        TalkNet net = talking();
        net.tick();
        pass(net, 1);
        net.twice(0);
        Check.carryAll(net);
        Check.ticks(net, 2);
        spurt("one is played, one is late", net, "1 1 1 1 0 1 1");
        grantAnew(net);
        pass(net, 50);
        Check.carryAll(net);
        spurt("b is next, all else stays told", net, "2 1 0 1 0 1 1");
        net.tick();
        spurt("since 1 tick", net, "2 1 0 1 0 1 1");
        net.tick();
        spurt("since 2 ticks", net, "2 1 1 2 0 1 81");
    }

    private static void aboveBeginsASpurtWhenTheFormerIsOver() {
        TalkNet net = talking();
        pass(net, 1);
        Check.carryAll(net);
        Check.ticks(net, 6);
        spurt("over", net, "1 0 5 1 4 0 " + gaps(1, 4));
        Check.dropAll(net);
        grantAnew(net);
        pass(net, 50, 60);
        net.carry(1);
        spurt("b is next", net, "2 1 1 1 4 0 " + gaps(1, 4));
        Check.ticks(net, 2);
        spurt("since 2 ticks", net, "2 1 2 2 4 0 " + (gaps(1, 4) * 31 + 60));
    }

    /** "nothing is kept" */
    private static void newSpurtForgets() {
        TalkNet net = talking();
        pass(net, 1, 2, 3);
        Check.carryAll(net);
        Check.ticks(net, 2);
        spurt("one is played", net, "1 1 1 1 0 0 1");
        grantAnew(net);
        pass(net, 50, 60);
        net.carry(1);
        spurt("a new spurt: what was kept is forgotten", net, "2 1 1 1 0 0 1");
        net.tick();
        spurt("since one tick", net, "2 1 1 1 0 0 1");
        Check.ticks(net, 4);
        spurt("one, and three gaps of its own", net, "2 1 5 2 3 0 " + gaps(91, 3));
    }

    private static void newSpurtForgetsAllOfTheWindow() {
        TalkNet net = talking();
        passed(net, 100, 115);
        Check.carryAll(net);
        grantAnew(net);
        passed(net, 0, 15);
        Check.carryAll(net);
        spurt("none is kept already", net, "2 1 0 0 0 0 0");
        Check.ticks(net, 17);
        spurt("the new ones are played", net, "2 1 16 16 0 0 " + sumOf(0, 15));
        TalkNet few = talking();
        passed(few, 100, 115);
        Check.carryAll(few);
        grantAnew(few);
        pass(few, 7);
        Check.carryAll(few);
        Check.ticks(few, 6);
        spurt("the old ones are not", few, "2 0 5 1 4 0 " + gaps(7, 4));
    }

    private static void gapsAreCountedAnew() {
        TalkNet net = talking();
        pass(net, 1);
        Check.carryAll(net);
        Check.ticks(net, 5);
        spurt("three gaps", net, "1 1 4 1 3 0 " + gaps(1, 3));
        Check.dropAll(net);
        grantAnew(net);
        pass(net, 7, 8);
        net.carry(0);
        Check.dropAll(net);
        Check.ticks(net, 5);
        Check.due("three gaps of the new spurt", net.about(0, LISTENER, 9), 1);
        net.tick();
        Check.due("four", net.about(0, LISTENER, 9), 0);
    }

    /** What comes between two gaps, late or kept, does not count for "one behind the other": what is played does. */
    private static void gapsGoOnWhenOthersCome() {
        TalkNet net = talking();
        passed(net, 0, 9);
        net.carry(0);
        Check.ticks(net, 4);
        spurt("two gaps", net, "1 1 3 1 2 0 " + gaps(0, 2));
        Check.comes(net, "9/0/1(1,1,1)");
        Check.comes(net, "9/0/1(1,9,9)");
        spurt("one is late, one is kept", net, "1 1 3 1 2 1 " + gaps(0, 2));
        net.tick();
        spurt("three gaps", net, "1 1 4 1 3 1 " + gaps(0, 3));
        net.tick();
        spurt("four gaps", net, "1 0 5 1 4 1 " + gaps(0, 4));
    }

    /** What is late by its grant changes nothing else: not what is kept, nor since when, nor the gaps. */
    private static void olderOnesChangeNothingElse() {
        TalkNet net = talking();
        pass(net, 1);
        grantAnew(net);
        Check.ticks(net, 3);
        Check.due("row", Check.row(net), "9/0/1(1,0,1)");
        pass(net, 5, 6);
        net.carry(1);
        net.twice(0);
        net.tick();
        spurt("since one tick", net, "2 1 0 0 0 1 0");
        net.twice(0);
        net.tick();
        spurt("since two ticks", net, "2 1 1 1 0 2 5");
        Check.comes(net, "9/0/1(2,1,6)");
        net.twice(0);
        net.tick();
        spurt("what was kept", net, "2 1 2 2 0 3 161");
        Check.ticks(net, 2);
        net.twice(0);
        net.tick();
        spurt("three gaps", net, "2 1 5 2 3 4 " + gaps(161, 3));
        net.tick();
        spurt("four gaps", net, "2 0 6 2 4 4 " + gaps(161, 4));
    }

    /** "PASSED comes: with a below its grant ...: it is late" */
    private static void belowTheGrantIsLate() {
        TalkNet net = talking();
        pass(net, 1, 2);
        grantAnew(net);
        pass(net, 5);
        net.carry(2);
        spurt("the newer comes first", net, "2 1 0 0 0 0 0");
        Check.carryAll(net);
        spurt("the older are late, though they are next and above", net, "2 1 0 0 0 2 0");
        Check.ticks(net, 3);
        spurt("and are not played", net, "2 1 2 1 1 2 154");
    }

    /** "(a gap as -1)" */
    private static void sumOfGaps() {
        TalkNet net = talking();
        pass(net, 0);
        Check.carryAll(net);
        Check.ticks(net, 2);
        spurt("a 0 is played", net, "1 1 1 1 0 0 0");
        int[] sums = {-1, -32, -993, -30784};
        for (int i = 0; i < 4; i++) {
            net.tick();
            spurt((i + 1) + " gaps", net, "1 " + (i < 3 ? 1 : 0) + " " + (i + 2) + " 1 " + (i + 1) + " 0 " + sums[i]);
        }
    }

    /** "the former sum * 31 and the value, as an int that wraps around" */
    private static void sumWraps() {
        TalkNet net = talking();
        pass(net, Integer.MAX_VALUE, Integer.MIN_VALUE, -1);
        Check.carryAll(net);
        Check.ticks(net, 4);
        int want = (Integer.MAX_VALUE * 31 + Integer.MIN_VALUE) * 31 - 1;
        spurt("as an int", net, "1 1 3 3 0 0 " + want);
        wrapsAtTheGreatestInt();
    }

    private static void wrapsAtTheGreatestInt() {
        // 69273666 * 31 is 2147483646, one below the greatest int.
        int[] values = {0, 1, 2};
        int[] sums = {2147483646, 2147483647, -2147483648};
        int[] leastValues = {-1, -2, -3};
        int[] leastSums = {-2147483647, -2147483648, 2147483647};
        for (int i = 0; i < 3; i++) {
            sumOfTwo(69273666, values[i], sums[i]);
            sumOfTwo(-69273666, leastValues[i], leastSums[i]);
        }
    }

    private static void sumOfTwo(int first, int second, int want) {
        TalkNet net = talking();
        pass(net, first, second);
        Check.carryAll(net);
        Check.ticks(net, 3);
        spurt("the sum of " + first + " and " + second, net, "1 1 2 2 0 0 " + want);
    }
}
