/** Promises 3 and 5 to 8: what a member does, and what the messages that come to it change in each state. */
public final class MemberTest {
    public static void main(String[] args) {
        isThereWithAPriority();
        newPriorityChangesNothingElse();
        newPriorityChangesNoSpurt();
        asks();
        asksByNumbersOfItsOwn();
        askingKeepsWhatIsTold();
        asksAgain();
        asksAgainAsItWas();
        releases();
        sendsUnits();
        sendsAsManyUnitsOfEachGrant();
        grantedComes();
        grantedComesToOneThatIsQueued();
        grantedOfAnOlderRequest();
        queuedComes();
        queuedComesWithAnotherPlace();
        queuedOfAnOlderRequest();
        deniedComes();
        deniedOfAnOlderRequest();
        revokedComes();
        revokedOfAnOlderGrant();
        endedComes();
        endedOfAnOlderGrant();
        revokedAndEndedComeBeforeGranted();
        talkerComes();
        talkerComesInEachState();
        talkerOfAnOlderGrant();
        talkerBelowItsOwnGrant();
        talkerBehindAllElse();
        talkerBehindDenied();
        Check.end();
    }

    /** Promise 3: "A member is there, with a priority". */
    private static void isThereWithAPriority() {
        TalkNet net = new TalkNet();
        net.member(2, 5, 6);
        Check.due("about", Check.about(net, 2, 5, 0, 2), "1 6 0");
        Check.due("the same member of another group", Check.about(net, 1, 5, 0, 2), "0 0 0");
        Check.due("another member of the group", Check.about(net, 2, 4, 0, 2), "0 0 0");
        Check.due("no message", net.messages(), 0);
    }

    /** Promise 3: "(a new one, if it is; all else that is told of it is as it was)". */
    private static void newPriorityChangesNothingElse() {
        for (int state = 0; state <= 4; state++) {
            TalkNet net = Check.inState(0, 0, state);
            String before = Check.about(net, 0, 0, 2, 14) + "; " + Check.server(net, 0) + "; " + Check.waiting(net, 0);
            net.member(0, 0, 5);
            Check.due("the new one in state " + state, Check.about(net, 0, 0, 0, 1), "1 5");
            Check.due("all else in state " + state, Check.about(net, 0, 0, 2, 14) + "; " + Check.server(net, 0)
                    + "; " + Check.waiting(net, 0), before);
            Check.due("no message in state " + state, net.messages(), 0);
        }
    }

    /** The same, for one that listens: what is kept, since when, and how many gaps are one behind the other. */
    private static void newPriorityChangesNoSpurt() {
        TalkNet net = Check.inState(0, 0, 3);
        net.unit(0, 0, 4);
        net.unit(0, 0, 5);
        Check.carryAll(net);
        net.tick();
        net.member(0, 1, 6);
        net.tick();
        Check.due("since two ticks", Check.about(net, 0, 1, 8, 14), "1 1 1 1 0 0 4");
        net.member(0, 1, 6);
        net.tick();
        Check.due("what was kept", Check.about(net, 0, 1, 8, 14), "1 1 2 2 0 0 129");
        Check.ticks(net, 3);
        net.member(0, 1, 7);
        Check.due("three gaps", Check.about(net, 0, 1, 7, 13), "0 1 1 5 2 3 0");
        net.tick();
        Check.due("four gaps", Check.about(net, 0, 1, 7, 13), "0 1 0 6 2 4 0");
    }

    /** Promise 5: "its request's number grows by 1, it asked, REQUEST is sent: the number." */
    private static void asks() {
        TalkNet net = Check.with(1, 4, 0);
        Check.due("press", net.press(1, 2, false), 1);
        Check.due("about", Check.about(net, 1, 2, 2, 3), "1 1");
        Check.due("press by another", net.press(1, 3, true), 1);
        Check.due("row", Check.row(net), "1/1/2(1,0,0) 1/1/3(1,1,0)");
        net.release(1, 2);
        Check.due("press again", net.press(1, 2, true), 2);
        Check.due("about", Check.about(net, 1, 2, 2, 3), "1 2");
        Check.due("row", Check.row(net), "1/1/2(1,0,0) 1/1/3(1,1,0) 2/1/2(1,0,0) 1/1/2(2,1,0)");
    }

    private static void asksByNumbersOfItsOwn() {
        TalkNet net = new TalkNet();
        net.member(0, 1, 0);
        net.member(2, 1, 0);
        net.member(2, 2, 0);
        for (int number = 1; number <= 20; number++) {
            Check.due("press", net.press(2, 1, false), number);
            net.release(2, 1);
            Check.dropAll(net);
        }
        Check.due("another member's", net.press(2, 2, false), 1);
        Check.due("another group's", net.press(0, 1, false), 1);
    }

    /** "(What is told stays until it is something else.)": place, grant and units sent of an earlier request. */
    private static void askingKeepsWhatIsTold() {
        TalkNet net = Check.with(0, 3, 0);
        for (int m = 0; m < 3; m++) {
            Check.ask(net, 0, m, false);
        }
        net.leave(0, 0);
        net.leave(0, 1);
        Check.carryAll(net);
        net.unit(0, 2, 9);
        state("granted", net, 2, "3 1 1 3 1");
        net.release(0, 2);
        state("released", net, 2, "0 1 1 3 1");
        net.press(0, 2, false);
        state("asked", net, 2, "1 2 1 3 1");
    }

    /** Promise 6: "A member that asked or is queued sends its REQUEST again". */
    private static void asksAgain() {
        TalkNet net = Check.with(0, 3, 0);
        net.press(0, 1, false);
        net.again(0, 1);
        Check.due("row", Check.row(net), "1/0/1(1,0,0) 1/0/1(1,0,0)");
        Check.due("still asked", Check.about(net, 0, 1, 2, 4), "1 1 0");
        Check.carryAll(net);
        Check.ask(net, 0, 0, true);
        Check.ask(net, 0, 2, false);
        Check.due("queued", Check.about(net, 0, 2, 2, 4), "2 1 1");
        net.again(0, 2);
        Check.due("row", Check.row(net), "1/0/2(1,0,0)");
        Check.due("still queued", Check.about(net, 0, 2, 2, 4), "2 1 1");
    }

    /** Promise 6: "as it was". */
    private static void asksAgainAsItWas() {
        TalkNet net = Check.with(0, 3, 0);
        net.press(0, 1, true);
        net.press(0, 2, false);
        net.again(0, 1);
        net.again(0, 2);
        Check.due("row", Check.row(net), "1/0/1(1,1,0) 1/0/2(1,0,0) 1/0/1(1,1,0) 1/0/2(1,0,0)");
        net.release(0, 1);
        net.release(0, 2);
        Check.dropAll(net);
        net.press(0, 1, false);
        net.press(0, 2, true);
        Check.dropAll(net);
        net.again(0, 1);
        net.again(0, 2);
        Check.due("as the last one was", Check.row(net), "1/0/1(2,0,0) 1/0/2(2,1,0)");
        Check.dropAll(net);
        net.member(0, 2, 7);
        net.again(0, 2);
        Check.due("with a new priority, too", Check.row(net), "1/0/2(2,1,0)");
    }

    /** Promise 7: "A member sends RELEASE, and has none." */
    private static void releases() {
        for (int state = 1; state <= 4; state++) {
            TalkNet net = Check.inState(2, 3, state);
            net.release(2, 3);
            Check.due("row in state " + state, Check.row(net), "2/2/3(1,0,0)");
            Check.due("it has none, after state " + state, net.about(2, 3, 2), 0);
            Check.due("the rest stays told", net.about(2, 3, 3) + " " + net.about(2, 3, 5), state < 3 ? "1 0" : "1 1");
        }
        TalkNet later = Check.inState(2, 3, 3);
        later.release(2, 3);
        later.press(2, 3, true);
        later.release(2, 3);
        Check.due("its last request's number", Check.row(later), "2/2/3(1,0,0) 1/2/3(2,1,0) 2/2/3(2,0,0)");
    }

    /** Promise 8: "sends a UNIT, with the number of units that it sent so far: that." */
    private static void sendsUnits() {
        for (int state = 3; state <= 4; state++) {
            TalkNet net = Check.inState(2, 1, state);
            Check.due("first", net.unit(2, 1, -7), 0);
            Check.due("second", net.unit(2, 1, Integer.MAX_VALUE), 1);
            Check.due("third", net.unit(2, 1, Integer.MIN_VALUE), 2);
            Check.due("row", Check.row(net), "11/2/1(1,0,-7) 11/2/1(1,1,2147483647) 11/2/1(1,2,-2147483648)");
            Check.due("state, and units sent", net.about(2, 1, 2) + " " + net.about(2, 1, 6), state + " 3");
        }
        TalkNet both = Check.inState(0, 0, 3);
        both.unit(0, 0, 1);
        both.carry(0);
        both.press(0, 1, true);
        Check.carryAll(both);
        Check.due("revoked", both.about(0, 0, 2), 4);
        Check.due("it goes on counting", both.unit(0, 0, 2), 1);
    }

    /** "how many units it sent under that": of a new grant none, whatever was sent before. */
    private static void sendsAsManyUnitsOfEachGrant() {
        TalkNet net = Check.inState(0, 0, 3);
        net.unit(0, 0, 1);
        net.unit(0, 0, 2);
        net.release(0, 0);
        Check.due("they stay told", net.about(0, 0, 6), 2);
        net.press(0, 0, false);
        Check.due("when it asked, too", net.about(0, 0, 6), 2);
        Check.carryAll(net);
        Check.due("a new grant", Check.about(net, 0, 0, 2, 6), "3 2 0 2 0");
        Check.due("its first unit", net.unit(0, 0, 3), 0);
        Check.due("row", Check.row(net), "11/0/0(2,0,3)");
    }

    private static void state(String what, TalkNet net, int member, String want) {
        Check.due(what, Check.about(net, 0, member, 2, 6), want);
    }

    private static final String FIRST_GRANTED = "3/0/0(1,1,0)";

    /** "GRANTED comes: if it asked or is queued, and a is its request's number, it is granted b, no units sent." */
    private static void grantedComes() {
        TalkNet net = Check.with(0, 2, 0);
        net.rules(0, true, 100, 50, 20);
        net.press(0, 0, false);
        net.carry(0);
        Check.comes(net, FIRST_GRANTED);
        state("to one that asked", net, 0, "3 1 0 1 0");
        net.unit(0, 0, 5);
        net.unit(0, 0, 6);
        Check.comes(net, FIRST_GRANTED);
        state("to one that is granted", net, 0, "3 1 0 1 2");
        net.press(0, 1, true);
        net.carry(net.messages() - 1);
        Check.comes(net, "6/0/0(1,0,0)");
        Check.comes(net, FIRST_GRANTED);
        state("to one that is revoked", net, 0, "4 1 0 1 2");
        net.release(0, 0);
        Check.comes(net, FIRST_GRANTED);
        state("to one that has none", net, 0, "0 1 0 1 2");
    }

    private static void grantedComesToOneThatIsQueued() {
        TalkNet net = Check.with(0, 3, 0);
        Check.ask(net, 0, 1, false);
        Check.ask(net, 0, 2, false);
        Check.ask(net, 0, 0, false);
        state("queued", net, 0, "2 1 1 0 0");
        net.leave(0, 1);
        net.leave(0, 2);
        Check.comes(net, "3/0/0(1,3,0)");
        state("granted, its place stays told", net, 0, "3 1 1 3 0");
    }

    private static void grantedOfAnOlderRequest() {
        TalkNet net = Check.with(0, 2, 0);
        net.press(0, 0, false);
        net.carry(0);
        net.release(0, 0);
        net.press(0, 0, false);
        Check.comes(net, FIRST_GRANTED);
        state("to one that asked anew", net, 0, "1 2 0 0 0");
        net.again(0, 0);
        Check.due("its REQUEST is as it was", Check.message(net, net.messages() - 1), "1/0/0(2,0,0)");
        net.drop(net.messages() - 1);
        net.press(0, 1, false);
        Check.comes(net, "2/0/0(1,0,0)");
        Check.comes(net, "1/0/1(1,0,0)");
        Check.comes(net, "1/0/0(2,0,0)");
        Check.comes(net, "4/0/0(2,0,0)");
        state("queued", net, 0, "2 2 0 0 0");
        Check.comes(net, FIRST_GRANTED);
        state("to one that is queued anew", net, 0, "2 2 0 0 0");
    }

    private static final String SECOND_QUEUED = "4/0/1(1,0,0)";

    /** "QUEUED: if it asked or is queued, and a is that, it is queued, with place b." */
    private static void queuedComes() {
        TalkNet net = Check.with(0, 3, 0);
        net.rules(0, true, 100, 50, 20);
        Check.ask(net, 0, 0, false);
        net.press(0, 1, false);
        net.carry(0);
        Check.comes(net, SECOND_QUEUED);
        state("to one that asked", net, 1, "2 1 0 0 0");
        net.release(0, 0);
        net.carry(1);
        Check.comes(net, "3/0/1(1,2,0)");
        Check.comes(net, SECOND_QUEUED);
        state("to one that is granted", net, 1, "3 1 0 2 0");
        net.press(0, 2, true);
        net.carry(net.messages() - 1);
        Check.comes(net, "6/0/1(2,0,0)");
        Check.comes(net, SECOND_QUEUED);
        state("to one that is revoked", net, 1, "4 1 0 2 0");
        net.release(0, 1);
        Check.comes(net, SECOND_QUEUED);
        state("to one that has none", net, 1, "0 1 0 2 0");
    }

    private static void queuedComesWithAnotherPlace() {
        TalkNet net = Check.with(0, 4, 0);
        Check.ask(net, 0, 0, false);
        net.press(0, 1, false);
        net.carry(0);
        Check.ask(net, 0, 2, true);
        net.again(0, 1);
        net.carry(0);
        net.again(0, 1);
        net.leave(0, 2);
        net.carry(1);
        Check.due("row", Check.row(net), "4/0/1(1,1,0) 4/0/1(1,0,0)");
        net.twice(0);
        state("the place that came", net, 1, "2 1 1 0 0");
        net.twice(1);
        state("the next", net, 1, "2 1 0 0 0");
        net.twice(0);
        state("turned round", net, 1, "2 1 1 0 0");
    }

    private static void queuedOfAnOlderRequest() {
        TalkNet net = Check.with(0, 3, 0);
        Check.ask(net, 0, 0, false);
        Check.ask(net, 0, 2, false);
        net.press(0, 1, false);
        net.carry(0);
        net.release(0, 1);
        net.press(0, 1, false);
        Check.comes(net, "4/0/1(1,1,0)");
        state("to one that asked anew", net, 1, "1 2 0 0 0");
        net.leave(0, 2);
        Check.comes(net, "1/0/1(2,0,0)");
        Check.comes(net, "4/0/1(2,0,0)");
        Check.comes(net, "4/0/1(1,1,0)");
        state("to one that is queued anew", net, 1, "2 2 0 0 0");
    }

    /** Member 0 holds, 1 .. 4 wait, member 5 was denied: the DENIED is on its way. */
    private static TalkNet denied() {
        TalkNet net = Check.with(0, 6, 0);
        for (int m = 0; m < 5; m++) {
            Check.ask(net, 0, m, false);
        }
        net.press(0, 5, false);
        net.carry(0);
        return net;
    }

    /** "DENIED: likewise it has none." */
    private static void deniedComes() {
        TalkNet net = denied();
        Check.due("row", Check.row(net), "5/0/5(1,0,0)");
        state("asked", net, 5, "1 1 0 0 0");
        net.twice(0);
        state("to one that asked", net, 5, "0 1 0 0 0");
        net.twice(0);
        state("to one that has none", net, 5, "0 1 0 0 0");
    }

    private static void deniedOfAnOlderRequest() {
        TalkNet net = denied();
        net.release(0, 5);
        net.press(0, 5, false);
        net.twice(0);
        state("to one that asked anew", net, 5, "1 2 0 0 0");
        net.leave(0, 1);
        Check.comes(net, "1/0/5(2,0,0)");
        Check.comes(net, "4/0/5(2,3,0)");
        net.twice(0);
        state("to one that is queued anew", net, 5, "2 2 3 0 0");
        for (int m = 2; m < 5; m++) {
            net.leave(0, m);
        }
        net.leave(0, 0);
        Check.comes(net, "3/0/5(2,2,0)");
        net.twice(0);
        state("to one that is granted anew", net, 5, "3 2 3 2 0");
    }

    /** Member 0 is granted 1, and was revoked for member 1 and ended; both messages, and no others, are on their way. */
    private static TalkNet revokedAndEnded() {
        TalkNet net = Check.with(0, 2, 0);
        net.rules(0, true, 100, 50, 0);
        Check.ask(net, 0, 0, false);
        net.press(0, 1, true);
        net.carry(0);
        net.drop(0);
        net.tick();
        while (net.messages() > 2) {
            net.drop(2);
        }
        Check.due("row", Check.row(net), REVOKED + " " + ENDED);
        state("granted", net, 0, "3 1 0 1 0");
        return net;
    }

    private static final String REVOKED = "6/0/0(1,0,0)";
    private static final String ENDED = "7/0/0(1,0,0)";

    /** "REVOKED: if it is granted a, it is revoked." */
    private static void revokedComes() {
        TalkNet net = revokedAndEnded();
        Check.comes(net, REVOKED);
        state("to one that is granted a", net, 0, "4 1 0 1 0");
        Check.comes(net, REVOKED);
        state("to one that is revoked", net, 0, "4 1 0 1 0");
        net.release(0, 0);
        Check.comes(net, REVOKED);
        state("to one that has none", net, 0, "0 1 0 1 0");
        net.press(0, 0, false);
        Check.comes(net, REVOKED);
        state("to one that asked", net, 0, "1 2 0 1 0");
        Check.comes(net, "1/0/0(2,0,0)");
        Check.comes(net, "4/0/0(2,0,0)");
        Check.comes(net, REVOKED);
        state("to one that is queued", net, 0, "2 2 0 1 0");
    }

    private static void revokedOfAnOlderGrant() {
        TalkNet net = revokedAndEnded();
        net.release(0, 0);
        net.leave(0, 1);
        net.press(0, 0, false);
        Check.comes(net, "1/0/0(2,0,0)");
        Check.comes(net, "3/0/0(2,3,0)");
        Check.comes(net, REVOKED);
        state("to one that is granted anew", net, 0, "3 2 0 3 0");
    }

    /** "ENDED: if it is granted or revoked a, it has none." */
    private static void endedComes() {
        TalkNet granted = revokedAndEnded();
        Check.comes(granted, ENDED);
        state("to one that is granted a", granted, 0, "0 1 0 1 0");
        Check.comes(granted, REVOKED);
        state("REVOKED behind it", granted, 0, "0 1 0 1 0");
        Check.comes(granted, ENDED);
        state("to one that has none", granted, 0, "0 1 0 1 0");
        granted.press(0, 0, false);
        Check.comes(granted, ENDED);
        state("to one that asked", granted, 0, "1 2 0 1 0");
        Check.comes(granted, "1/0/0(2,0,0)");
        Check.comes(granted, "4/0/0(2,0,0)");
        Check.comes(granted, ENDED);
        state("to one that is queued", granted, 0, "2 2 0 1 0");

        TalkNet revoked = revokedAndEnded();
        Check.comes(revoked, REVOKED);
        Check.comes(revoked, ENDED);
        state("to one that is revoked a", revoked, 0, "0 1 0 1 0");
    }

    private static void endedOfAnOlderGrant() {
        TalkNet net = revokedAndEnded();
        net.release(0, 0);
        net.leave(0, 1);
        net.press(0, 0, false);
        Check.comes(net, "1/0/0(2,0,0)");
        Check.comes(net, "3/0/0(2,3,0)");
        Check.comes(net, ENDED);
        state("to one that is granted anew", net, 0, "3 2 0 3 0");
        net.member(0, 1, 7);
        net.press(0, 1, false);
        Check.comes(net, "1/0/1(2,0,0)");
        Check.comes(net, "6/0/0(3,0,0)");
        Check.comes(net, ENDED);
        state("to one that is revoked anew", net, 0, "4 2 0 3 0");
    }

    private static void revokedAndEndedComeBeforeGranted() {
        TalkNet net = Check.with(0, 2, 0);
        net.rules(0, true, 100, 50, 0);
        net.press(0, 0, false);
        net.carry(0);
        net.press(0, 1, true);
        net.carry(net.messages() - 1);
        net.tick();
        Check.comes(net, REVOKED);
        Check.comes(net, ENDED);
        state("to one that asked, and knows of no grant", net, 0, "1 1 0 0 0");
        Check.comes(net, FIRST_GRANTED);
        state("GRANTED behind them", net, 0, "3 1 0 1 0");
    }

    /** "TALKER: if a is not below the one that it saw last (0 at first), it sees b talk." */
    private static void talkerComes() {
        TalkNet net = Check.with(0, 3, 0);
        Check.due("at first", net.about(0, 2, 7), -1);
        net.press(0, 0, false);
        net.carry(0);
        Check.comes(net, "8/0/2(1,0,0)");
        Check.due("above 0", net.about(0, 2, 7), 0);
        Check.comes(net, "8/0/2(1,0,0)");
        Check.due("equal", net.about(0, 2, 7), 0);
        Check.due("the other does not yet", net.about(0, 1, 7), -1);
        net.press(0, 1, false);
        net.carry(net.messages() - 1);
        net.leave(0, 0);
        Check.comes(net, "8/0/2(2,1,0)");
        Check.due("above 1", net.about(0, 2, 7), 1);
        Check.comes(net, "8/0/1(1,0,0)");
        Check.due("the one that talks now sees the first", net.about(0, 1, 7), 0);
        Check.comes(net, "3/0/1(1,2,0)");
        Check.due("a GRANTED does not change whom it sees", net.about(0, 1, 7), 0);
        net.leave(0, 1);
        Check.due("nor does the end of a grant", net.about(0, 2, 7), 1);
    }

    private static void talkerComesInEachState() {
        for (int state = 0; state <= 4; state++) {
            TalkNet net = Check.inState(0, 2, state);
            net.member(0, 3, 7);
            net.press(0, 3, true);
            net.carry(0);
            // An emergency: whoever holds the floor has lost it 20 ticks later.
            Check.ticks(net, 20);
            Check.due("who holds", net.server(0, 1), 3);
            Check.comes(net, "8/0/2(" + net.server(0, 0) + ",3,0)");
            Check.due("it sees it talk in state " + state, net.about(0, 2, 2) + " " + net.about(0, 2, 7), state + " 3");
        }
    }

    private static void talkerOfAnOlderGrant() {
        TalkNet net = Check.with(0, 4, 0);
        for (int m = 0; m < 3; m++) {
            net.press(0, m, false);
        }
        net.run(3);
        net.leave(0, 0);
        net.leave(0, 1);
        Check.comes(net, "8/0/3(2,1,0)");
        Check.due("the second", net.about(0, 3, 7), 1);
        Check.comes(net, "8/0/3(1,0,0)");
        Check.due("the first is below", net.about(0, 3, 7), 1);
        Check.comes(net, "8/0/3(3,2,0)");
        Check.due("the third", net.about(0, 3, 7), 2);
        Check.comes(net, "8/0/3(2,1,0)");
        Check.due("the second is below", net.about(0, 3, 7), 2);
        Check.comes(net, "8/0/3(1,0,0)");
        Check.due("so is the first", net.about(0, 3, 7), 2);
        net.member(0, 3, 5);
        Check.comes(net, "8/0/3(2,1,0)");
        Check.due("with a new priority, too", net.about(0, 3, 7), 2);
        net.leave(0, 3);
        net.member(0, 3, 5);
        Check.comes(net, "8/0/3(2,1,0)");
        Check.due("and when it is there again", net.about(0, 3, 7), 2);
    }

    /** "the one that it saw last" is a TALKER's: its own grant is none that it saw. */
    private static void talkerBelowItsOwnGrant() {
        TalkNet net = Check.with(0, 2, 0);
        net.press(0, 0, false);
        net.press(0, 1, false);
        net.run(2);
        net.leave(0, 0);
        Check.comes(net, "3/0/1(1,2,0)");
        state("granted", net, 1, "3 1 0 2 0");
        Check.due("it saw nobody", net.about(0, 1, 7), -1);
        Check.comes(net, "8/0/1(1,0,0)");
        Check.due("it sees the first", net.about(0, 1, 7), 0);
    }

    /** The member asks, is queued, granted, revoked and ended, and leaves; nobody is there beside it behind that. */
    private static void goThroughAllStates(TalkNet net) {
        net.press(0, 1, false);
        net.again(0, 1);
        net.carry(1);
        net.carry(1);
        net.carry(1);
        net.carry(2);
        state(net, 3);
        net.unit(0, 1, 5);
        net.unit(0, 1, 6);
        keepFirst(net);
        net.member(0, 2, 7);
        net.press(0, 2, true);
        net.carry(1);
        net.carry(2);
        state(net, 4);
        keepFirst(net);
        net.tick();
        net.carry(1);
        state(net, 0);
        keepFirst(net);
        net.press(0, 1, false);
        net.carry(1);
        net.carry(1);
        state(net, 2);
        net.again(0, 1);
        net.release(0, 1);
        net.leave(0, 1);
        net.leave(0, 2);
        net.member(0, 1, 0);
        keepFirst(net);
    }

    private static void state(TalkNet net, int want) {
        Check.due("the state", net.about(0, 1, 2), want);
    }

    private static void keepFirst(TalkNet net) {
        while (net.messages() > 1) {
            net.drop(1);
        }
    }

    /** "the one that it saw last (0 at first)": nothing but a TALKER that comes is seen. */
    private static void talkerBehindAllElse() {
        TalkNet net = new TalkNet();
        net.rules(0, true, 100, 50, 0);
        net.member(0, 1, 0);
        net.member(0, 2, 0);
        net.press(0, 2, false);
        net.carry(0);
        net.drop(0);
        net.drop(0);
        net.leave(0, 2);
        keepFirst(net);
        Check.due("the first TALKER", Check.row(net), "8/0/1(1,2,0)");
        for (int i = 0; i < 3; i++) {
            goThroughAllStates(net);
        }
        Check.due("it saw nobody", net.about(0, 1, 7), -1);
        net.carry(0);
        Check.due("it sees the first", net.about(0, 1, 7), 2);
    }

    private static void talkerBehindDenied() {
        TalkNet net = Check.with(0, 6, 0);
        net.press(0, 0, false);
        net.carry(0);
        for (int i = 0; i < 6; i++) {
            net.drop(0);
        }
        Check.due("the first TALKER", Check.row(net), "8/0/5(1,0,0)");
        for (int m = 1; m <= 4; m++) {
            net.press(0, m, false);
            net.carry(1);
            keepFirst(net);
        }
        for (int i = 0; i < 3; i++) {
            net.press(0, 5, false);
            net.carry(1);
            Check.due("DENIED", net.message(1, 0), 5);
            net.carry(1);
        }
        Check.due("it saw nobody", net.about(0, 5, 7), -1);
        net.carry(0);
        Check.due("it sees the first", net.about(0, 5, 7), 0);
    }
}
