/** What "Terms" says of a member that is not there, and of one that leaves (promise 4). */
public final class GoneTest {
    public static void main(String[] args) {
        leaveTellsWhetherItWasThere();
        leavingEndsEachState();
        leavingTwiceChangesNothing();
        leavesWithTheFloor();
        leavesWithTheFloorRevoked();
        leavesWithTheFloorAndNobodyWaits();
        leavesFromEachPlaceOfTheRow();
        leavesAFullRow();
        leavesWithNothing();
        hearsNoAnswer();
        hearsNoTalker();
        hearsNoPassed();
        nothingIsSentToIt();
        requestOfOneThatIsGone();
        requestOfOneThatIsThereAgain();
        sameRequestOfOneThatIsThereAgain();
        deniedRequestOfOneThatIsThereAgain();
        releaseOfOneThatIsGone();
        equalReleaseOfOneThatIsGone();
        unitOfOneThatIsGone();
        spurtOfOneThatIsGone();
        keepsWhatIsTold();
        Check.end();
    }

    /** Promise 4: "A member leaves: whether it was there." */
    private static void leaveTellsWhetherItWasThere() {
        TalkNet net = new TalkNet();
        Check.due("never there", net.leave(2, 5), false);
        net.member(2, 5, 6);
        Check.due("there", Check.about(net, 2, 5, 0, 1), "1 6");
        Check.due("the same member of another group", net.leave(1, 5), false);
        Check.due("another member of the group", net.leave(2, 4), false);
        Check.due("still there", net.about(2, 5, 0), 1);
        Check.due("leaves", net.leave(2, 5), true);
        Check.due("not there, its priority stays told", Check.about(net, 2, 5, 0, 1), "0 6");
        Check.due("left already", net.leave(2, 5), false);
        net.member(2, 5, 6);
        Check.due("leaves again", net.leave(2, 5), true);
    }

    /** "when it leaves, its state is none" */
    private static void leavingEndsEachState() {
        for (int state = 0; state <= 4; state++) {
            TalkNet net = Check.inState(1, 2, state);
            Check.due("before", net.about(1, 2, 2), state);
            int number = net.about(1, 2, 3);
            net.leave(1, 2);
            Check.due("after leaving in state " + state, net.about(1, 2, 2), 0);
            net.member(1, 2, 3);
            Check.due("there again", Check.about(net, 1, 2, 0, 3), "1 3 0 " + number);
            Check.due("it may ask", net.press(1, 2, false), number + 1);
        }
    }

    private static void leavingTwiceChangesNothing() {
        TalkNet net = Check.inState(0, 0, 3);
        net.leave(0, 0);
        TalkNet twice = Check.inState(0, 0, 3);
        twice.leave(0, 0);
        Check.due("leaves again", twice.leave(0, 0), false);
        Check.due("nothing changes", Check.all(twice), Check.all(net));
    }

    /** "the server takes what it holds (ENDED is not sent) ... as released" */
    private static void leavesWithTheFloor() {
        TalkNet net = Check.with(0, 4, 0);
        Check.ask(net, 0, 0, false);
        Check.ask(net, 0, 2, false);
        Check.ask(net, 0, 3, false);
        net.tick();
        net.leave(0, 0);
        Check.due("no ENDED, no TALKER to it", Check.row(net),
                "3/0/2(1,2,0) 10/0/2(2,2,0) 8/0/1(2,2,0) 8/0/3(2,2,0)");
        Check.due("server", Check.server(net, 0), "2 2 1 0 1 -1");
        Check.due("waiting", Check.waiting(net, 0), "3");
    }

    private static void leavesWithTheFloorRevoked() {
        TalkNet net = Check.inState(0, 0, 4);
        net.leave(0, 0);
        Check.due("no ENDED", Check.row(net), "3/0/1(1,2,0) 10/0/1(2,1,0)");
        Check.due("the next is not revoked", Check.server(net, 0), "2 1 0 0 0 -1");
    }

    private static void leavesWithTheFloorAndNobodyWaits() {
        TalkNet net = Check.inState(0, 3, 3);
        net.unit(0, 3, 1);
        Check.carryAll(net);
        net.leave(0, 3);
        Check.due("row", Check.row(net), "10/0/0(1,-1,0)");
        Check.due("server", Check.server(net, 0), "1 -1 0 0 -1 -1");
    }

    private static TalkNet fiveAsked() {
        TalkNet net = Check.with(0, 6, 0);
        for (int m = 0; m < 5; m++) {
            Check.ask(net, 0, m, false);
        }
        return net;
    }

    /** "the server takes what it ... waits for as released" */
    private static void leavesFromEachPlaceOfTheRow() {
        String[] due = {"2 3 4", "1 3 4", "1 2 4", "1 2 3"};
        for (int place = 0; place < 4; place++) {
            TalkNet net = fiveAsked();
            net.leave(0, place + 1);
            Check.due("the one at place " + place + " leaves", Check.waiting(net, 0), due[place]);
            Check.due("server", Check.server(net, 0), "1 0 3 0 0 -1");
            Check.due("no message", net.messages(), 0);
        }
    }

    private static void leavesAFullRow() {
        TalkNet net = fiveAsked();
        net.leave(0, 1);
        net.press(0, 5, false);
        net.carry(0);
        Check.due("there is a place again", Check.row(net), "4/0/5(1,3,0)");
        net.member(0, 1, 0);
        net.press(0, 1, false);
        net.carry(1);
        Check.due("but no other one", Check.message(net, 1), "5/0/1(2,0,0)");
    }

    private static void leavesWithNothing() {
        TalkNet net = fiveAsked();
        Check.due("leave", net.leave(0, 5), true);
        Check.due("server", Check.server(net, 0), "1 0 4 0 0 -1");
        Check.due("no message", net.messages(), 0);
        TalkNet asked = Check.with(0, 2, 0);
        asked.press(0, 0, false);
        asked.leave(0, 0);
        Check.due("what it sent is still on its way, nothing else", Check.row(asked), "1/0/0(1,0,0)");
    }

    /** "A member that is not there hears nothing, and what comes to it is gone": GRANTED, QUEUED, REVOKED, ENDED. */
    private static void hearsNoAnswer() {
        TalkNet net = Check.with(0, 3, 0);
        net.press(0, 0, false);
        net.press(0, 1, false);
        net.run(2);
        Check.due("row", Check.row(net), "3/0/0(1,1,0) 10/0/0(1,0,0) 8/0/1(1,0,0) 8/0/2(1,0,0) 4/0/1(1,0,0)");
        net.leave(0, 1);
        net.carry(4);
        net.leave(0, 0);
        net.carry(0);
        Check.due("they are gone from the row", Check.row(net),
                "10/0/0(1,0,0) 8/0/1(1,0,0) 8/0/2(1,0,0) 10/0/0(1,-1,0)");
        net.member(0, 0, 0);
        net.member(0, 1, 0);
        Check.due("GRANTED was not heard", Check.about(net, 0, 0, 2, 6), "0 1 0 0 0");
        Check.due("QUEUED was not heard", Check.about(net, 0, 1, 2, 6), "0 1 0 0 0");
    }

    private static void hearsNoTalker() {
        TalkNet net = Check.with(0, 2, 0);
        net.press(0, 0, false);
        net.carry(0);
        net.leave(0, 1);
        net.twice(2);
        Check.due("TALKER to one that is gone", net.about(0, 1, 7), -1);
        net.member(0, 1, 0);
        Check.due("there again: still not", net.about(0, 1, 7), -1);
        net.carry(2);
        Check.due("TALKER to one that is there again", net.about(0, 1, 7), 0);
        net.leave(0, 1);
        Check.due("what it saw stays told", net.about(0, 1, 7), 0);
    }

    private static void hearsNoPassed() {
        TalkNet net = Check.with(0, 2, 0);
        Check.ask(net, 0, 0, false);
        net.unit(0, 0, 4);
        net.carry(0);
        net.leave(0, 1);
        net.twice(0);
        Check.due("no spurt, and not late", Check.about(net, 0, 1, 8, 14), "0 0 0 0 0 0 0");
        net.member(0, 1, 0);
        net.carry(0);
        Check.due("there again: a spurt", Check.about(net, 0, 1, 8, 14), "1 1 0 0 0 0 0");
    }

    /** "all others that are there" of a grant, of a tick and of a unit. */
    private static void nothingIsSentToIt() {
        TalkNet net = Check.with(0, 4, 0);
        net.leave(0, 2);
        net.press(0, 1, false);
        net.carry(0);
        Check.due("of a grant", Check.row(net), "3/0/1(1,1,0) 10/0/1(1,1,0) 8/0/0(1,1,0) 8/0/3(1,1,0)");
        Check.carryAll(net);
        Check.ticks(net, 5);
        Check.due("of a tick", Check.row(net), "8/0/0(1,1,0) 8/0/3(1,1,0)");
        Check.carryAll(net);
        net.unit(0, 1, 6);
        net.carry(0);
        Check.due("of a unit", Check.row(net), "9/0/0(1,0,6) 9/0/3(1,0,6)");
        Check.carryAll(net);
        net.member(0, 2, 0);
        net.unit(0, 1, 7);
        net.carry(0);
        Check.due("there again", Check.row(net), "9/0/0(1,1,7) 9/0/2(1,1,7) 9/0/3(1,1,7)");
    }

    /** "REQUEST comes from a member that is there" */
    private static void requestOfOneThatIsGone() {
        TalkNet net = Check.with(0, 2, 0);
        net.press(0, 0, false);
        net.leave(0, 0);
        net.carry(0);
        Check.due("it is not heard", Check.server(net, 0), "0 -1 0 0 -1 -1");
        Check.due("no answer", net.messages(), 0);
    }

    private static void requestOfOneThatIsThereAgain() {
        TalkNet net = Check.with(0, 2, 0);
        net.press(0, 0, false);
        net.leave(0, 0);
        net.twice(0);
        net.member(0, 0, 0);
        net.carry(0);
        Check.due("it is heard", Check.server(net, 0), "1 0 0 0 0 -1");
        Check.carryAll(net);
        Check.due("but it has none", net.about(0, 0, 2), 0);
    }

    /** What was held or waited for is as released: the same REQUEST once more has no answer. */
    private static void sameRequestOfOneThatIsThereAgain() {
        TalkNet net = Check.with(0, 3, 0);
        net.press(0, 0, false);
        net.press(0, 1, false);
        net.twice(0);
        net.twice(1);
        while (net.messages() > 2) {
            net.drop(2);
        }
        net.leave(0, 1);
        net.leave(0, 0);
        net.member(0, 0, 0);
        net.member(0, 1, 0);
        net.drop(2);
        net.run(2);
        Check.due("no answer", net.messages(), 0);
        Check.due("server", Check.server(net, 0), "1 -1 0 0 -1 -1");
    }

    /** Leaving takes what is held and waited for, and nothing else: what was denied stays so. */
    private static void deniedRequestOfOneThatIsThereAgain() {
        TalkNet net = fiveAsked();
        net.press(0, 5, false);
        net.twice(0);
        net.drop(1);
        net.leave(0, 5);
        net.twice(0);
        Check.due("not there: no answer", Check.row(net), "1/0/5(1,0,0)");
        net.member(0, 5, 0);
        net.leave(0, 4);
        net.carry(0);
        Check.due("there again", Check.row(net), "5/0/5(1,0,0)");
        Check.due("waiting", Check.waiting(net, 0), "1 2 3");
    }

    /** "its RELEASE counts": its number is the greatest now, so that the REQUEST behind it is an equal one. */
    private static void releaseOfOneThatIsGone() {
        TalkNet net = Check.with(0, 2, 0);
        net.press(0, 0, false);
        net.release(0, 0);
        net.leave(0, 0);
        net.carry(1);
        net.member(0, 0, 0);
        net.carry(0);
        Check.due("server", Check.server(net, 0), "0 -1 0 0 -1 -1");
        Check.due("no answer", net.messages(), 0);
        net.press(0, 0, false);
        net.carry(0);
        Check.due("the next number is heard", Check.server(net, 0), "1 0 0 0 0 -1");
    }

    private static void equalReleaseOfOneThatIsGone() {
        TalkNet net = Check.with(0, 2, 0);
        Check.ask(net, 0, 0, false);
        Check.ask(net, 0, 1, false);
        net.release(0, 0);
        net.leave(0, 0);
        Check.carryAll(net);
        Check.due("freed once", Check.server(net, 0), "2 1 0 0 0 -1");
        Check.due("gate", Check.relay(net, 0), "2 1 0 0");
    }

    /** "what it sent is still on its way" */
    private static void unitOfOneThatIsGone() {
        TalkNet net = Check.with(0, 2, 0);
        Check.ask(net, 0, 0, false);
        net.unit(0, 0, 6);
        net.unit(0, 0, 7);
        net.leave(0, 0);
        Check.due("row", Check.row(net), "11/0/0(1,0,6) 11/0/0(1,1,7) 10/0/0(1,-1,0)");
        net.carry(0);
        Check.due("before the gate's end it is passed", Check.relay(net, 0), "1 0 1 0");
        Check.due("PASSED", Check.message(net, 2), "9/0/1(1,0,6)");
        net.carry(1);
        net.carry(0);
        Check.due("behind it, it is stopped", Check.relay(net, 0), "1 -1 1 1");
    }

    /** "its spurt is over" */
    private static void spurtOfOneThatIsGone() {
        TalkNet net = Check.with(0, 2, 0);
        Check.ask(net, 0, 0, false);
        for (int i = 1; i <= 4; i++) {
            net.unit(0, 0, i);
            net.carry(net.messages() - 1);
        }
        net.carry(0);
        net.carry(0);
        Check.ticks(net, 2);
        Check.due("one is played", Check.about(net, 0, 1, 8, 14), "1 1 1 1 0 0 1");
        net.leave(0, 1);
        Check.due("over", Check.about(net, 0, 1, 8, 14), "1 0 1 1 0 0 1");
        net.tick();
        Check.due("nothing is played, no gap", Check.about(net, 0, 1, 8, 14), "1 0 1 1 0 0 1");
        net.member(0, 1, 0);
        net.tick();
        Check.due("there again: it stays over", Check.about(net, 0, 1, 8, 14), "1 0 1 1 0 0 1");
        net.carry(0);
        Check.due("what comes of it is late", Check.about(net, 0, 1, 8, 14), "1 0 1 1 0 1 1");
    }

    /** "(What is told stays until it is something else.)" */
    private static void keepsWhatIsTold() {
        TalkNet net = Check.with(0, 2, 3);
        Check.ask(net, 0, 0, false);
        Check.ask(net, 0, 1, false);
        net.unit(0, 0, 5);
        Check.carryAll(net);
        net.leave(0, 0);
        Check.carryAll(net);
        Check.due("who left", Check.about(net, 0, 0), "0 3 0 1 0 1 1 -1 0 0 0 0 0 0 0");
        net.leave(0, 1);
        Check.due("who listened, and left", Check.about(net, 0, 1), "0 3 0 1 0 2 0 0 1 0 0 0 0 0 0");
        net.member(0, 1, 4);
        Check.due("who came again", Check.about(net, 0, 1), "1 4 0 1 0 2 0 0 1 0 0 0 0 0 0");
    }
}
