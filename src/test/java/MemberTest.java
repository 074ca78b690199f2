/** Promises 3 to 8: what a member does, and what the messages that come to it change. */
public final class MemberTest {
    public static void main(String[] args) {
        comesAndGoes();
        keepsWhatIsTold();
        newPriorityChangesNothingElse();
        asks();
        asksAgain();
        releases();
        sendsUnits();
        answersToOtherRequests();
        answersWhenNothingIsHoped();
        revokedAndEnded();
        seesTalkers();
        hearsNothingWhenGone();
        whatItSentStaysOnItsWay();
        leavesWithTheFloor();
        leavesTheRow();
        Check.end();
    }

    private static void comesAndGoes() {
        TalkNet net = new TalkNet();
        net.member(2, 5, 6);
        Check.due("about", Check.about(net, 2, 5, 0, 2), "1 6 0");
        Check.due("the same member of another group", Check.about(net, 1, 5, 0, 2), "0 0 0");
        Check.due("no message", net.messages(), 0);
        Check.due("leave", net.leave(2, 5), true);
        Check.due("leave when gone", net.leave(2, 5), false);
        Check.due("its priority stays told", Check.about(net, 2, 5, 0, 2), "0 6 0");
        Check.due("nothing held: no message", net.messages(), 0);
    }

    private static void keepsWhatIsTold() {
        TalkNet net = Check.with(0, 2, 3);
        Check.ask(net, 0, 0, false);
        Check.ask(net, 0, 1, false);
        net.unit(0, 0, 5);
        Check.carryAll(net);
        net.leave(0, 0);
        Check.carryAll(net);
        Check.due("who left", Check.about(net, 0, 0), "0 3 0 1 0 1 1 -1 0 0 0 0 0 0 0");
        net.leave(0, 1);
        Check.due("who listened, and left", Check.about(net, 0, 1), "0 3 0 1 0 2 0 0 1 0 0 0 0 0 0");
        net.member(0, 1, 4);
        Check.due("who came again", Check.about(net, 0, 1), "1 4 0 1 0 2 0 0 1 0 0 0 0 0 0");
        Check.due("its numbers go on", net.press(0, 1, false), 2);
    }

    private static void newPriorityChangesNothingElse() {
        TalkNet net = Check.with(0, 2, 3);
        Check.ask(net, 0, 0, false);
        Check.ask(net, 0, 1, false);
        net.member(0, 1, 6);
        Check.due("about", Check.about(net, 0, 1), "1 6 2 1 0 0 0 0 0 0 0 0 0 0 0");
        Check.due("waiting", Check.waiting(net, 0), "1");
        Check.due("no message", net.messages(), 0);
    }

    private static void asks() {
        TalkNet net = Check.with(1, 4, 0);
        Check.due("press", net.press(1, 2, false), 1);
        Check.due("press by another", net.press(1, 3, true), 1);
        Check.due("row", Check.row(net), "1/1/2(1,0,0) 1/1/3(1,1,0)");
        Check.due("about", Check.about(net, 1, 2, 2, 3), "1 1");
        net.release(1, 2);
        Check.due("press again", net.press(1, 2, true), 2);
        Check.due("row", Check.row(net), "1/1/2(1,0,0) 1/1/3(1,1,0) 2/1/2(1,0,0) 1/1/2(2,1,0)");
    }

    private static void asksAgain() {
        TalkNet net = Check.with(0, 3, 0);
        net.press(0, 1, true);
        net.drop(0);
        net.again(0, 1);
        Check.due("as it was: an emergency", Check.row(net), "1/0/1(1,1,0)");
        Check.due("still asked", Check.about(net, 0, 1, 2, 3), "1 1");
        Check.carryAll(net);
        Check.ask(net, 0, 2, false);
        net.again(0, 2);
        Check.due("as it was: none", Check.row(net), "1/0/2(1,0,0)");
        Check.due("still queued", Check.about(net, 0, 2, 2, 4), "2 1 0");
    }

    private static void releases() {
        TalkNet net = Check.with(0, 3, 0);
        net.rules(0, true, 50, 50, 20);
        net.press(0, 0, false);
        net.release(0, 0);
        Check.due("when asked", Check.row(net), "1/0/0(1,0,0) 2/0/0(1,0,0)");
        Check.due("none", net.about(0, 0, 2), 0);
        Check.carryAll(net);
        Check.due("the grant came when nothing was asked", net.about(0, 0, 2), 0);
        Check.ask(net, 0, 0, false);
        Check.ask(net, 0, 1, true);
        Check.due("revoked", net.about(0, 0, 2), 4);
        net.release(0, 1);
        net.release(0, 0);
        Check.due("when queued, and revoked", Check.row(net), "2/0/1(1,0,0) 2/0/0(2,0,0)");
        Check.due("none", net.about(0, 0, 2) + net.about(0, 1, 2), 0);
    }

    private static void sendsUnits() {
        TalkNet net = Check.with(2, 2, 0);
        net.rules(2, true, 50, 50, 20);
        Check.ask(net, 2, 1, false);
        Check.due("first", net.unit(2, 1, -7), 0);
        Check.due("second", net.unit(2, 1, Integer.MAX_VALUE), 1);
        Check.due("row", Check.row(net), "11/2/1(1,0,-7) 11/2/1(1,1,2147483647)");
        Check.due("units sent", net.about(2, 1, 6), 2);
        Check.dropAll(net);
        Check.ask(net, 2, 0, true);
        Check.due("revoked", net.about(2, 1, 2), 4);
        Check.due("a revoked one still sends", net.unit(2, 1, 3), 2);
        Check.due("row", Check.row(net), "11/2/1(1,2,3)");
    }

    private static void answersToOtherRequests() {
        TalkNet net = Check.with(0, 6, 0);
        net.press(0, 0, false);
        net.carry(0);
        net.release(0, 0);
        net.press(0, 0, false);
        net.carry(0);
        Check.due("GRANTED to an older request", Check.about(net, 0, 0, 2, 5), "1 2 0 0");
        Check.dropAll(net);
        for (int m = 1; m < 6; m++) {
            net.press(0, m, false);
            net.carry(net.messages() - 1);
            net.release(0, m);
            net.press(0, m, false);
        }
        while (net.messages() > 0) {
            if (net.message(0, 0) == 4 || net.message(0, 0) == 5) {
                net.carry(0);
            } else {
                net.drop(0);
            }
        }
        Check.due("QUEUED to an older request", Check.about(net, 0, 4, 2, 4), "1 2 0");
        Check.due("DENIED to an older request", Check.about(net, 0, 5, 2, 4), "1 2 0");
    }

    private static void answersWhenNothingIsHoped() {
        TalkNet net = Check.with(0, 2, 0);
        net.press(0, 0, false);
        net.carry(0);
        net.twice(0);
        net.unit(0, 0, 1);
        net.carry(0);
        Check.due("GRANTED twice does not count units anew", Check.about(net, 0, 0, 2, 6), "3 1 0 1 1");
        Check.dropAll(net);
        net.press(0, 1, false);
        net.carry(0);
        net.twice(0);
        Check.due("queued", Check.about(net, 0, 1, 2, 4), "2 1 0");
        net.release(0, 0);
        net.carry(1);
        net.carry(1);
        Check.due("granted", Check.about(net, 0, 1, 2, 5), "3 1 0 2");
        net.carry(0);
        Check.due("QUEUED comes to one that is granted", Check.about(net, 0, 1, 2, 5), "3 1 0 2");
    }

    private static void revokedAndEnded() {
        TalkNet net = Check.with(0, 2, 0);
        net.rules(0, true, 50, 50, 0);
        Check.ask(net, 0, 0, false);
        net.press(0, 1, true);
        net.carry(0);
        Check.due("row", Check.row(net), "4/0/1(1,0,0) 6/0/0(1,0,0)");
        net.carry(1);
        Check.due("revoked", Check.about(net, 0, 0, 2, 5), "4 1 0 1");
        net.tick();
        Check.due("ENDED", Check.message(net, 1), "7/0/0(1,0,0)");
        net.twice(1);
        Check.due("ended", Check.about(net, 0, 0, 2, 5), "0 1 0 1");
        Check.carryAll(net);
        oldRevokedAndEnded();
    }

    private static void oldRevokedAndEnded() {
        TalkNet net = Check.with(0, 2, 0);
        net.rules(0, true, 50, 50, 0);
        Check.ask(net, 0, 0, false);
        net.press(0, 1, true);
        net.carry(0);
        net.drop(0);
        net.tick();
        Check.due("row", Check.row(net), "6/0/0(1,0,0) 7/0/0(1,0,0) 3/0/1(1,2,0) 10/0/1(2,1,0) 8/0/0(2,1,0)");
        net.twice(1);
        Check.due("ENDED to one that is granted", net.about(0, 0, 2), 0);
        net.carry(0);
        Check.due("REVOKED to one that has none", net.about(0, 0, 2), 0);
        net.leave(0, 1);
        net.press(0, 0, false);
        net.carry(net.messages() - 1);
        net.carry(net.messages() - 2);
        Check.due("granted anew", Check.about(net, 0, 0, 2, 5), "3 2 0 3");
        net.carry(0);
        Check.due("ENDED of an older grant", net.about(0, 0, 2), 3);
    }

    private static void seesTalkers() {
        TalkNet net = Check.with(0, 3, 0);
        net.press(0, 0, false);
        net.carry(0);
        net.carry(3);
        Check.due("sees", net.about(0, 2, 7), 0);
        Check.due("the other does not yet", net.about(0, 1, 7), -1);
        net.carry(0);
        net.release(0, 0);
        net.press(0, 1, false);
        net.carry(2);
        net.carry(2);
        Check.due("row", Check.row(net),
                "10/0/0(1,0,0) 8/0/1(1,0,0) 10/0/0(1,-1,0) 3/0/1(1,2,0) 10/0/1(2,1,0) 8/0/0(2,1,0) 8/0/2(2,1,0)");
        net.carry(6);
        Check.due("sees the next", net.about(0, 2, 7), 1);
        net.carry(1);
        Check.due("sees the first only now", net.about(0, 1, 7), 0);
        Check.due("the talker sees itself not", net.about(0, 1, 7), 0);
        oldTalkers();
    }

    private static void oldTalkers() {
        TalkNet net = Check.with(0, 3, 0);
        net.press(0, 0, false);
        net.carry(0);
        net.carry(0);
        net.release(0, 0);
        net.press(0, 1, false);
        net.carry(3);
        net.carry(3);
        net.carry(net.messages() - 1);
        Check.due("sees the next", net.about(0, 2, 7), 1);
        Check.due("an older TALKER", Check.message(net, 2), "8/0/2(1,0,0)");
        net.carry(2);
        Check.due("still sees the next", net.about(0, 2, 7), 1);
    }

    private static void hearsNothingWhenGone() {
        TalkNet net = Check.with(0, 2, 0);
        net.press(0, 0, false);
        net.carry(0);
        net.leave(0, 1);
        net.carry(2);
        Check.due("TALKER to one that is gone", net.about(0, 1, 7), -1);
        net.carry(0);
        net.member(0, 1, 0);
        net.unit(0, 0, 4);
        Check.carryAll(net);
        net.unit(0, 0, 4);
        net.carry(0);
        Check.due("PASSED", Check.row(net), "9/0/1(1,1,4)");
        net.leave(0, 1);
        net.carry(0);
        Check.due("PASSED to one that is gone is not late", Check.about(net, 0, 1, 7, 14), "-1 1 0 0 0 0 0 0");
        Check.due("it goes from the row", net.messages(), 0);
        requestOfOneThatIsGone();
    }

    private static void requestOfOneThatIsGone() {
        TalkNet net = Check.with(0, 2, 0);
        net.press(0, 0, false);
        net.leave(0, 0);
        net.twice(0);
        Check.due("its REQUEST is not heard", Check.server(net, 0), "0 -1 0 0 -1 -1");
        net.member(0, 0, 0);
        net.carry(0);
        Check.due("when it is there again, it is", Check.server(net, 0), "1 0 0 0 0 -1");
    }

    private static void whatItSentStaysOnItsWay() {
        TalkNet net = Check.with(0, 2, 0);
        Check.ask(net, 0, 0, false);
        net.unit(0, 0, 6);
        net.leave(0, 0);
        Check.due("row", Check.row(net), "11/0/0(1,0,6) 10/0/0(1,-1,0)");
        net.carry(0);
        Check.due("its unit is passed", Check.relay(net, 0), "1 0 1 0");
        releaseOfOneThatIsGone();
    }

    private static void releaseOfOneThatIsGone() {
        TalkNet net = Check.with(0, 2, 0);
        net.press(0, 0, false);
        net.release(0, 0);
        net.leave(0, 0);
        net.carry(1);
        net.member(0, 0, 0);
        net.carry(0);
        Check.due("its RELEASE counts", Check.server(net, 0), "0 -1 0 0 -1 -1");
    }

    private static void leavesWithTheFloor() {
        TalkNet net = Check.with(0, 4, 0);
        Check.ask(net, 0, 0, false);
        Check.ask(net, 0, 2, false);
        net.tick();
        Check.due("leave", net.leave(0, 0), true);
        Check.due("no ENDED, no TALKER to it", Check.row(net),
                "3/0/2(1,2,0) 10/0/2(2,2,0) 8/0/1(2,2,0) 8/0/3(2,2,0)");
        Check.due("server", Check.server(net, 0), "2 2 0 0 1 -1");
        Check.dropAll(net);
        net.leave(0, 2);
        Check.due("nobody waits", Check.row(net), "10/0/0(2,-1,0)");
        Check.due("server", Check.server(net, 0), "2 -1 0 0 -1 -1");
    }

    private static void leavesTheRow() {
        TalkNet net = Check.with(0, 4, 0);
        for (int m = 0; m < 4; m++) {
            Check.ask(net, 0, m, false);
        }
        net.leave(0, 2);
        Check.due("waiting", Check.waiting(net, 0), "1 3");
        Check.due("no message", net.messages(), 0);
        Check.due("state", net.about(0, 2, 2), 0);
        net.member(0, 2, 0);
        Check.due("the next number", net.press(0, 2, false), 2);
        Check.carryAll(net);
        Check.due("waiting", Check.waiting(net, 0), "1 3 2");
    }
}
