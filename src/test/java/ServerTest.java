/** Promises 16 and 17, and what the server does when a REQUEST or a RELEASE comes. */
public final class ServerTest {
    public static void main(String[] args) {
        grantsTheFloor();
        grantsAnew();
        grantsToTheFirstThatWaits();
        ordersByEmergency();
        ordersByPriority();
        ordersByWhatWasHeardEarlier();
        ordersEmergenciesByPriority();
        priorityIsAsItWasHeard();
        fourWaitAtMost();
        deniesWhenFourWait();
        deniesAnew();
        belowTheGreatestIsNothing();
        belowKeepsDenied();
        belowDeniesNothing();
        equalWhenItHolds();
        equalWhenItHoldsRevoked();
        equalWhenItWaits();
        equalWhenItWasDenied();
        equalWhenThereIsNothing();
        equalWithAnotherPriority();
        greaterFreesTheFloor();
        greaterFreesForTheNext();
        greaterFreesWhenFourWait();
        greaterOfOneThatWaits();
        greaterOfOneThatWasDenied();
        releaseBelowIsNothing();
        releaseFrees();
        releaseLeavesTheRow();
        releaseOfNothing();
        releaseAboveFrees();
        releaseAboveLeavesTheRow();
        releaseAboveOfNothing();
        releaseAboveForgetsDenied();
        releaseKeepsDenied();
        preemptsByEmergency();
        preemptsByPriority();
        preemptsBothEmergencies();
        preemptsByTheHoldersRules();
        preemptsOnce();
        preemptsByTheHoldersPriorityAsHeard();
        preemptingOneWaitsAsItWasHeard();
        deniedDoesNotPreempt();
        waitingAgainDoesNotPreempt();
        revokedFromThisTickOn();
        tellsNothingOfNoHolder();
        groupsAreApart();
        Check.end();
    }

    private static TalkNet allThere(int group) {
        return Check.with(group, 6, 0);
    }

    /** Members 0 .. 5 are there, 0 holds the floor, and so many wait: 1, 2 ... */
    private static TalkNet waits(int count) {
        TalkNet net = allThere(0);
        for (int m = 0; m <= count; m++) {
            Check.ask(net, 0, m, false);
        }
        return net;
    }

    private static void server(String what, TalkNet net, String want) {
        Check.due(what, Check.server(net, 0), want);
    }

    private static void row(String what, TalkNet net, String want) {
        Check.due(what, Check.row(net), want);
    }

    private static void waiting(String what, TalkNet net, String want) {
        Check.due(what, Check.waiting(net, 0), want);
    }

    /** "GRANTED THE FLOOR: the grants' number grows by 1; GRANTED ..., GATE ..., then TALKER to all others ..., by number." */
    private static void grantsTheFloor() {
        TalkNet net = Check.with(1, 2, 0);
        net.member(1, 5, 0);
        Check.ticks(net, 7);
        net.press(1, 1, false);
        net.carry(0);
        Check.due("server", Check.server(net, 1), "1 1 0 0 7 -1");
        row("row", net, "3/1/1(1,1,0) 10/1/1(1,1,0) 8/1/0(1,1,0) 8/1/5(1,1,0)");
        Check.carryAll(net);
        Check.due("member", Check.about(net, 1, 1, 2, 6), "3 1 0 1 0");
        TalkNet alone = Check.with(0, 1, 0);
        alone.press(0, 0, false);
        alone.carry(0);
        row("no others are there", alone, "3/0/0(1,1,0) 10/0/0(1,0,0)");
    }

    /** "It has begun in this tick; no unit was passed." */
    private static void grantsAnew() {
        TalkNet net = Check.with(0, 2, 0);
        Check.ask(net, 0, 0, false);
        net.tick();
        net.unit(0, 0, 1);
        net.carry(0);
        Check.dropAll(net);
        server("a unit was passed", net, "1 0 0 0 0 1");
        Check.ticks(net, 2);
        net.release(0, 0);
        Check.carryAll(net);
        server("freed", net, "1 -1 0 0 -1 -1");
        net.tick();
        Check.ask(net, 0, 0, false);
        server("granted anew", net, "2 0 0 0 4 -1");
        net.press(0, 1, false);
        net.carry(0);
        net.unit(0, 0, 1);
        Check.carryAll(net);
        net.release(0, 0);
        net.tick();
        Check.carryAll(net);
        server("granted to the next", net, "3 1 0 0 5 -1");
    }

    /** "FREED: the holder is none. Then, if somebody waits, the first one is granted the floor". */
    private static void grantsToTheFirstThatWaits() {
        TalkNet net = waits(4);
        for (int m = 0; m < 4; m++) {
            net.release(0, m);
            net.carry(0);
            Check.due("GRANTED to the first", Check.message(net, 0), "3/0/" + (m + 1) + "(1," + (m + 2) + ",0)");
            Check.due("GATE with it", Check.message(net, 1), "10/0/" + (m + 1) + "(" + (m + 2) + "," + (m + 1) + ",0)");
            Check.due("and TALKER", net.messages(), 7);
            server("the next holds", net, (m + 2) + " " + (m + 1) + " " + (3 - m) + " 0 0 -1");
            Check.carryAll(net);
        }
        net.release(0, 4);
        net.carry(0);
        row("nobody waits", net, "10/0/0(5,-1,0)");
        server("nobody holds", net, "5 -1 0 0 -1 -1");
    }

    private static TalkNet heldBy(int member, int... priorities) {
        TalkNet net = new TalkNet();
        for (int m = 0; m < priorities.length; m++) {
            net.member(0, m, priorities[m]);
        }
        Check.ask(net, 0, member, false);
        return net;
    }

    /** "emergencies first" */
    private static void ordersByEmergency() {
        TalkNet net = heldBy(0, 7, 7, 0, 0);
        Check.ask(net, 0, 1, false);
        net.press(0, 2, true);
        net.carry(0);
        row("before a greater priority", net, "4/0/2(1,0,0)");
        Check.carryAll(net);
        net.press(0, 3, false);
        net.carry(0);
        row("none behind them", net, "4/0/3(1,2,0)");
        waiting("waiting", net, "2 1 3");
    }

    /** "then greater priorities" */
    private static void ordersByPriority() {
        TalkNet net = heldBy(0, 7, 4, 3, 5, 4);
        Check.ask(net, 0, 1, false);
        net.press(0, 2, false);
        net.carry(0);
        row("one below", net, "4/0/2(1,1,0)");
        Check.carryAll(net);
        net.press(0, 3, false);
        net.carry(0);
        row("one above", net, "4/0/3(1,0,0)");
        Check.carryAll(net);
        net.press(0, 4, false);
        net.carry(0);
        row("an equal one", net, "4/0/4(1,2,0)");
        waiting("waiting", net, "3 1 4 2");
        Check.due("a place that was told stays", net.about(0, 1, 4), 0);
    }

    /** "then what was heard earlier" */
    private static void ordersByWhatWasHeardEarlier() {
        TalkNet net = heldBy(5, 2, 2, 2, 2, 2, 2);
        for (int m : new int[] {3, 1, 2, 0}) {
            net.press(0, m, false);
        }
        net.carry(2);
        net.run(200);
        waiting("heard, not sent", net, "2 3 1 0");
        TalkNet emergencies = heldBy(5, 2, 2, 2, 2, 2, 2);
        for (int m : new int[] {3, 1, 2, 0}) {
            Check.ask(emergencies, 0, m, true);
        }
        waiting("emergencies", emergencies, "3 1 2 0");
    }

    private static void ordersEmergenciesByPriority() {
        TalkNet net = heldBy(0, 0, 1, 2, 3, 4);
        Check.ask(net, 0, 1, true);
        Check.ask(net, 0, 4, false);
        Check.ask(net, 0, 2, true);
        Check.ask(net, 0, 3, false);
        waiting("waiting", net, "2 1 4 3");
    }

    /** "(as they were when it was heard)" */
    private static void priorityIsAsItWasHeard() {
        TalkNet net = allThere(0);
        Check.ask(net, 0, 0, false);
        Check.ask(net, 0, 1, false);
        net.member(0, 1, 7);
        net.member(0, 2, 3);
        Check.ask(net, 0, 2, false);
        waiting("not as it is now", net, "2 1");
        net.press(0, 3, false);
        net.member(0, 3, 5);
        Check.carryAll(net);
        waiting("nor as it was when it was sent", net, "3 2 1");
    }

    /** "a row that WAITS, 4 at most", "QUEUED with its place (from 0)" */
    private static void fourWaitAtMost() {
        TalkNet net = waits(0);
        for (int m = 1; m <= 4; m++) {
            net.press(0, m, false);
            net.carry(0);
            row("QUEUED " + m, net, "4/0/" + m + "(1," + (m - 1) + ",0)");
            Check.due("how many wait", net.server(0, 2), m);
            Check.carryAll(net);
        }
        waiting("waiting", net, "1 2 3 4");
        net.press(0, 5, false);
        net.carry(0);
        row("the fifth", net, "5/0/5(1,0,0)");
        Check.due("how many wait", net.server(0, 2), 4);
        waiting("waiting", net, "1 2 3 4");
    }

    /** "if 4 wait, it is denied: DENIED", whatever it is */
    private static void deniesWhenFourWait() {
        TalkNet net = waits(4);
        net.member(0, 5, 7);
        net.press(0, 5, true);
        net.carry(0);
        row("an emergency of the greatest priority", net, "5/0/5(1,0,0)");
        waiting("waiting", net, "1 2 3 4");
        TalkNet three = waits(3);
        three.member(0, 5, 7);
        three.press(0, 5, true);
        three.carry(0);
        row("when 3 wait", three, "4/0/5(1,0,0)");
        waiting("waiting", three, "5 1 2 3");
    }

    private static void deniesAnew() {
        TalkNet net = waits(4);
        Check.ask(net, 0, 5, false);
        net.press(0, 5, false);
        net.carry(0);
        row("the next number, when still 4 wait", net, "5/0/5(2,0,0)");
        Check.carryAll(net);
        net.leave(0, 4);
        net.press(0, 5, false);
        net.carry(0);
        row("the next number, when 3 wait", net, "4/0/5(3,3,0)");
    }

    /** "Below the greatest one: nothing." */
    private static void belowTheGreatestIsNothing() {
        TalkNet holds = Check.with(0, 2, 0);
        holds.press(0, 0, false);
        holds.release(0, 0);
        holds.press(0, 0, true);
        holds.carry(2);
        server("it holds by the greater", holds, "1 0 0 0 0 -1");
        holds.carry(0);
        row("no answer", holds, "2/0/0(1,0,0) 3/0/0(2,1,0) 10/0/0(1,0,0) 8/0/1(1,0,0)");
        server("it still holds", holds, "1 0 0 0 0 -1");

        TalkNet free = Check.with(0, 2, 0);
        free.press(0, 0, false);
        free.release(0, 0);
        free.press(0, 0, false);
        free.release(0, 0);
        free.carry(3);
        free.carry(0);
        server("the greatest was released", free, "0 -1 0 0 -1 -1");
        row("no answer", free, "2/0/0(1,0,0) 1/0/0(2,0,0)");
    }

    /** "whether that was denied": no REQUEST or RELEASE below the greatest changes that. */
    private static void belowKeepsDenied() {
        TalkNet net = waits(4);
        net.press(0, 5, false);
        net.release(0, 5);
        net.press(0, 5, false);
        net.twice(2);
        row("denied", net, "1/0/5(1,0,0) 2/0/5(1,0,0) 1/0/5(2,0,0) 5/0/5(2,0,0)");
        net.drop(3);
        net.carry(0);
        net.twice(1);
        row("behind a REQUEST below", net, "2/0/5(1,0,0) 1/0/5(2,0,0) 5/0/5(2,0,0)");
        net.drop(2);
        net.carry(0);
        net.carry(0);
        row("behind a RELEASE below", net, "5/0/5(2,0,0)");
    }

    private static void belowDeniesNothing() {
        TalkNet net = waits(1);
        for (int i = 0; i < 2; i++) {
            net.press(0, 5, false);
            net.release(0, 5);
        }
        net.twice(2);
        net.carry(3);
        net.drop(3);
        waiting("it waited", net, "1");
        row("row", net, "1/0/5(1,0,0) 2/0/5(1,0,0) 1/0/5(2,0,0)");
        net.carry(0);
        net.twice(1);
        row("behind a REQUEST below", net, "2/0/5(1,0,0) 1/0/5(2,0,0)");
        net.carry(0);
        net.carry(0);
        row("behind a RELEASE below", net, "");
        waiting("it does not wait again", net, "1");
    }

    /** "Equal: if its member holds the floor by it, GRANTED" */
    private static void equalWhenItHolds() {
        TalkNet net = Check.with(0, 2, 0);
        Check.ask(net, 0, 1, false);
        net.release(0, 1);
        Check.carryAll(net);
        net.press(0, 0, false);
        net.twice(0);
        Check.ticks(net, 3);
        while (net.messages() > 1) {
            net.drop(1);
        }
        net.carry(0);
        row("its number, and its grant", net, "3/0/0(1,2,0)");
        server("it began when it did", net, "2 0 0 0 0 -1");
    }

    private static void equalWhenItHoldsRevoked() {
        TalkNet net = Check.with(0, 2, 0);
        net.rules(0, true, 100, 50, 20);
        net.press(0, 0, false);
        net.twice(0);
        net.press(0, 1, true);
        net.carry(net.messages() - 1);
        while (net.messages() > 1) {
            net.drop(1);
        }
        net.carry(0);
        row("it still holds by it", net, "3/0/0(1,1,0)");
        server("revoked", net, "1 0 1 1 0 -1");
    }

    /** "if it waits, QUEUED with its place (from 0)" */
    private static void equalWhenItWaits() {
        TalkNet net = waits(4);
        for (int m = 1; m <= 4; m++) {
            net.again(0, m);
            net.carry(0);
            row("the place of " + m, net, "4/0/" + m + "(1," + (m - 1) + ",0)");
            Check.carryAll(net);
        }
        waiting("nobody waits twice", net, "1 2 3 4");
        net.leave(0, 2);
        net.again(0, 4);
        net.carry(0);
        row("its place now", net, "4/0/4(1,2,0)");
        Check.carryAll(net);
        Check.ask(net, 0, 5, true);
        net.again(0, 1);
        net.carry(0);
        row("its place now", net, "4/0/1(1,1,0)");
    }

    /** "if it was denied, DENIED": even if there is a place by now */
    private static void equalWhenItWasDenied() {
        TalkNet net = waits(4);
        net.press(0, 5, false);
        net.twice(0);
        net.drop(1);
        net.twice(0);
        row("when 4 wait", net, "1/0/5(1,0,0) 5/0/5(1,0,0)");
        net.drop(1);
        net.leave(0, 4);
        net.twice(0);
        row("when 3 wait", net, "1/0/5(1,0,0) 5/0/5(1,0,0)");
        waiting("waiting", net, "1 2 3");
        net.drop(1);
        for (int m = 3; m >= 0; m--) {
            net.leave(0, m);
        }
        Check.due("the floor is free", net.server(0, 1), -1);
        net.drop(1);
        net.carry(0);
        row("when the floor is free", net, "5/0/5(1,0,0)");
        server("nobody holds", net, "1 -1 0 0 -1 -1");
    }

    /** Equal, but it neither holds nor waits, and was not denied: no answer. */
    private static void equalWhenThereIsNothing() {
        TalkNet released = Check.with(0, 1, 0);
        released.press(0, 0, false);
        released.twice(0);
        released.release(0, 0);
        released.carry(3);
        while (released.messages() > 1) {
            released.drop(1);
        }
        released.carry(0);
        row("what was released", released, "");
        server("nobody holds", released, "1 -1 0 0 -1 -1");

        TalkNet ended = Check.with(0, 1, 0);
        ended.rules(0, false, 1, 50, 5);
        ended.press(0, 0, false);
        ended.twice(0);
        ended.tick();
        while (ended.messages() > 1) {
            ended.drop(1);
        }
        ended.carry(0);
        row("what was ended", ended, "");
        server("nobody holds", ended, "1 -1 0 0 -1 -1");
    }

    private static void equalWithAnotherPriority() {
        TalkNet net = waits(2);
        net.member(0, 2, 7);
        net.again(0, 2);
        net.carry(0);
        row("heard but once: its place stays", net, "4/0/2(1,1,0)");
        waiting("waiting", net, "1 2");
    }

    /** "Greater: ... what the member holds is FREED without ENDED" */
    private static void greaterFreesTheFloor() {
        TalkNet net = Check.with(0, 2, 0);
        Check.ask(net, 0, 0, false);
        net.release(0, 0);
        net.drop(0);
        Check.ticks(net, 3);
        net.press(0, 0, false);
        net.carry(0);
        row("freed without ENDED, then granted", net, "10/0/0(1,-1,0) 3/0/0(2,2,0) 10/0/0(2,0,0) 8/0/1(2,0,0)");
        server("it holds anew", net, "2 0 0 0 3 -1");
    }

    private static void greaterFreesForTheNext() {
        TalkNet net = Check.with(0, 3, 0);
        net.rules(0, true, 50, 50, 20);
        Check.ask(net, 0, 0, false);
        Check.ask(net, 0, 1, false);
        net.release(0, 0);
        net.drop(0);
        net.press(0, 0, true);
        net.carry(0);
        row("the next is granted, the emergency revokes it", net,
                "3/0/1(1,2,0) 10/0/1(2,1,0) 8/0/0(2,1,0) 8/0/2(2,1,0) 4/0/0(2,0,0) 6/0/1(2,0,0)");
        server("the next holds", net, "2 1 1 1 0 -1");
    }

    private static void greaterFreesWhenFourWait() {
        TalkNet net = waits(4);
        net.release(0, 0);
        net.drop(0);
        net.press(0, 0, false);
        net.carry(0);
        Check.due("the first one's place is free by then", Check.message(net, 7), "4/0/0(2,3,0)");
        waiting("waiting", net, "2 3 4 0");
        server("the first holds", net, "2 1 4 0 0 -1");
    }

    /** "Greater: ... what waits of it goes" */
    private static void greaterOfOneThatWaits() {
        TalkNet net = waits(4);
        net.release(0, 1);
        net.drop(0);
        net.press(0, 1, false);
        net.carry(0);
        row("its old place goes first, so it is not denied", net, "4/0/1(2,3,0)");
        waiting("waiting", net, "2 3 4 1");
        Check.carryAll(net);
        net.release(0, 3);
        net.drop(0);
        net.press(0, 3, true);
        net.carry(0);
        row("as an emergency", net, "4/0/3(2,0,0)");
        waiting("waiting", net, "3 2 4 1");
    }

    private static void greaterOfOneThatWasDenied() {
        TalkNet net = waits(4);
        Check.ask(net, 0, 5, false);
        net.leave(0, 4);
        net.press(0, 5, false);
        net.twice(0);
        row("it waits", net, "1/0/5(2,0,0) 4/0/5(2,3,0)");
        net.release(0, 5);
        net.carry(2);
        waiting("released", net, "1 2 3");
        net.drop(1);
        net.carry(0);
        row("the greater number was not denied", net, "");
    }

    /** RELEASE with a number below the greatest: nothing. */
    private static void releaseBelowIsNothing() {
        TalkNet net = Check.with(0, 2, 0);
        Check.ask(net, 0, 0, false);
        net.release(0, 0);
        net.press(0, 0, false);
        net.carry(1);
        server("it holds by the greater", net, "2 0 0 0 0 -1");
        net.carry(0);
        server("it still holds", net, "2 0 0 0 0 -1");
        row("no other gate", net, "10/0/0(1,-1,0) 3/0/0(2,2,0) 10/0/0(2,0,0) 8/0/1(2,0,0)");

        TalkNet waits = waits(2);
        waits.release(0, 1);
        waits.press(0, 1, false);
        waits.carry(1);
        waits.carry(0);
        waiting("it still waits", waits, "2 1");
    }

    /** "RELEASE: if a is the member's greatest number: what it holds is freed without ENDED" */
    private static void releaseFrees() {
        TalkNet net = Check.with(0, 3, 0);
        Check.ask(net, 0, 0, false);
        Check.ask(net, 0, 2, false);
        Check.ticks(net, 2);
        net.release(0, 0);
        net.carry(0);
        row("the first that waits", net, "3/0/2(1,2,0) 10/0/2(2,2,0) 8/0/0(2,2,0) 8/0/1(2,2,0)");
        server("it holds", net, "2 2 0 0 2 -1");
        Check.carryAll(net);
        net.release(0, 2);
        net.twice(0);
        row("nobody waits", net, "2/0/2(1,0,0) 10/0/0(2,-1,0)");
        net.carry(0);
        row("a second time frees nothing", net, "10/0/0(2,-1,0)");
        server("nobody holds", net, "2 -1 0 0 -1 -1");
    }

    /** "or what waits of it goes" */
    private static void releaseLeavesTheRow() {
        String[] due = {"2 3 4", "1 3 4", "1 2 4", "1 2 3"};
        for (int m = 1; m <= 4; m++) {
            TalkNet net = waits(4);
            net.release(0, m);
            net.twice(0);
            waiting(m + " waits no more", net, due[m - 1]);
            server("the holder holds", net, "1 0 3 0 0 -1");
            net.carry(0);
            waiting("a second time", net, due[m - 1]);
            row("no message", net, "");
        }
    }

    private static void releaseOfNothing() {
        TalkNet net = waits(4);
        net.press(0, 5, false);
        net.carry(0);
        net.drop(0);
        net.release(0, 5);
        net.carry(0);
        row("of one that was denied", net, "");
        server("the holder holds", net, "1 0 4 0 0 -1");
    }

    /** "if greater, it is the greatest now, what it holds or waits for likewise" */
    private static void releaseAboveFrees() {
        TalkNet net = Check.with(0, 2, 0);
        Check.ask(net, 0, 0, false);
        net.release(0, 0);
        net.drop(0);
        net.press(0, 0, false);
        net.release(0, 0);
        net.carry(1);
        server("what it held is freed", net, "1 -1 0 0 -1 -1");
        row("without ENDED", net, "1/0/0(2,0,0) 10/0/0(1,-1,0)");
        net.carry(0);
        row("its request comes behind: no answer", net, "10/0/0(1,-1,0)");
        server("nobody holds", net, "1 -1 0 0 -1 -1");
    }

    private static void releaseAboveLeavesTheRow() {
        TalkNet net = waits(2);
        net.release(0, 1);
        net.drop(0);
        net.press(0, 1, false);
        net.release(0, 1);
        net.carry(1);
        waiting("it waits no more", net, "2");
        net.carry(0);
        waiting("its request comes behind", net, "2");
        row("no answer", net, "");
    }

    private static void releaseAboveOfNothing() {
        TalkNet net = waits(1);
        net.press(0, 5, false);
        net.release(0, 5);
        net.carry(1);
        row("no gate", net, "1/0/5(1,0,0)");
        server("the holder holds", net, "1 0 1 0 0 -1");
        net.carry(0);
        row("its request is an equal one", net, "");
        net.press(0, 5, false);
        net.carry(0);
        row("the next is greater", net, "4/0/5(2,1,0)");
    }

    /** "whether that was denied": the greatest number, and no other */
    private static void releaseAboveForgetsDenied() {
        TalkNet net = waits(4);
        Check.ask(net, 0, 5, false);
        net.press(0, 5, false);
        net.release(0, 5);
        net.carry(1);
        net.carry(0);
        row("a number that was never denied gets no DENIED", net, "");
    }

    private static void releaseKeepsDenied() {
        TalkNet net = waits(4);
        net.press(0, 5, false);
        net.twice(0);
        net.release(0, 5);
        net.carry(2);
        net.drop(1);
        net.leave(0, 4);
        net.carry(0);
        row("denied stays denied", net, "5/0/5(1,0,0)");
        waiting("waiting", net, "1 2 3");
    }

    /** Member 0 holds, by an emergency or not; member 1 asks: is member 0 revoked, and told so? */
    private static boolean revokes(int holders, boolean holdersEmergency, int priority, boolean emergency) {
        TalkNet net = new TalkNet();
        net.rules(0, true, 50, 50, 20);
        net.member(0, 0, holders);
        net.member(0, 1, priority);
        Check.ask(net, 0, 0, holdersEmergency);
        net.press(0, 1, emergency);
        net.carry(0);
        boolean revoked = net.server(0, 3) == 1;
        row("QUEUED, and REVOKED if it is", net, revoked ? "4/0/1(1,0,0) 6/0/0(1,0,0)" : "4/0/1(1,0,0)");
        server("it still holds", net, "1 0 1 " + (revoked ? 1 : 0) + " 0 -1");
        return revoked;
    }

    /** "above the holder (an emergency, and the holder's is none" */
    private static void preemptsByEmergency() {
        for (int priority : new int[] {0, 3, 4, 5, 7}) {
            Check.due("an emergency of " + priority + " over 4", revokes(4, false, priority, true), true);
            Check.due("none of " + priority + " over an emergency of 4", revokes(4, true, priority, false), false);
        }
    }

    /** "or a greater priority, with ... none emergencies)" */
    private static void preemptsByPriority() {
        int[] priorities = {0, 3, 4, 5, 7};
        boolean[] due = {false, false, false, true, true};
        for (int i = 0; i < priorities.length; i++) {
            Check.due(priorities[i] + " over 4", revokes(4, false, priorities[i], false), due[i]);
        }
        Check.due("1 over 0", revokes(0, false, 1, false), true);
        Check.due("0 over 0", revokes(0, false, 0, false), false);
        Check.due("7 over 7", revokes(7, false, 7, false), false);
    }

    /** "or a greater priority, with both ... emergencies)" */
    private static void preemptsBothEmergencies() {
        int[] priorities = {0, 3, 4, 5, 7};
        boolean[] due = {false, false, false, true, true};
        for (int i = 0; i < priorities.length; i++) {
            Check.due(priorities[i] + " over 4, both emergencies", revokes(4, true, priorities[i], true), due[i]);
        }
    }

    /** Member 0 holds by rules of the first kind; then those of the second hold; an emergency comes. */
    private static int revokedBy(boolean first, boolean second) {
        TalkNet net = Check.with(0, 2, 0);
        net.rules(0, first, 50, 50, 20);
        Check.ask(net, 0, 0, false);
        net.rules(0, second, 50, 50, 20);
        Check.ask(net, 0, 1, true);
        return net.server(0, 3);
    }

    /** "if the group preempts (by the holder's rules)" */
    private static void preemptsByTheHoldersRules() {
        Check.due("never", revokedBy(false, false), 0);
        Check.due("always", revokedBy(true, true), 1);
        Check.due("only when the grant began", revokedBy(true, false), 1);
        Check.due("only now", revokedBy(false, true), 0);
    }

    /** "the holder was not revoked" */
    private static void preemptsOnce() {
        TalkNet net = new TalkNet();
        net.rules(0, true, 50, 50, 5);
        net.member(0, 0, 3);
        net.member(0, 1, 4);
        net.member(0, 2, 5);
        Check.ask(net, 0, 0, false);
        Check.ask(net, 0, 1, false);
        Check.ticks(net, 3);
        net.press(0, 2, true);
        net.carry(0);
        row("QUEUED alone", net, "4/0/2(1,0,0)");
        Check.carryAll(net);
        net.tick();
        Check.due("revoked 4 ticks ago", net.server(0, 1), 0);
        net.tick();
        Check.due("revoked 5 ticks ago, by the first", net.server(0, 1), 2);
        Check.carryAll(net);
        Check.due("the next was not", net.server(0, 3), 0);
        Check.ask(net, 0, 0, true);
        Check.due("nor is it by one below", net.server(0, 3), 0);
    }

    private static void preemptsByTheHoldersPriorityAsHeard() {
        TalkNet net = Check.with(0, 2, 3);
        net.rules(0, true, 50, 50, 20);
        Check.ask(net, 0, 0, false);
        net.member(0, 0, 6);
        net.member(0, 1, 5);
        net.press(0, 1, false);
        net.carry(0);
        row("5 over 3, that is 6 now", net, "4/0/1(1,0,0) 6/0/0(1,0,0)");
    }

    private static void preemptingOneWaitsAsItWasHeard() {
        TalkNet net = heldBy(0, 3, 5, 5, 6);
        net.release(0, 0);
        Check.carryAll(net);
        net.rules(0, true, 50, 50, 20);
        Check.ask(net, 0, 0, false);
        net.press(0, 1, false);
        net.twice(0);
        row("it preempts", net, "1/0/1(1,0,0) 4/0/1(1,0,0) 6/0/0(2,0,0)");
        net.drop(1);
        net.drop(1);
        for (int m = 2; m <= 3; m++) {
            net.press(0, m, false);
            net.carry(1);
            net.drop(1);
        }
        waiting("an equal one behind it, a greater one before it", net, "3 1 2");
        net.release(0, 1);
        net.carry(1);
        waiting("it waits no more", net, "3 2");
        net.carry(0);
        row("its REQUEST has no answer any more", net, "");
    }

    private static void deniedDoesNotPreempt() {
        TalkNet net = allThere(0);
        net.rules(0, true, 50, 50, 20);
        for (int m = 0; m < 5; m++) {
            Check.ask(net, 0, m, false);
        }
        net.press(0, 5, true);
        net.carry(0);
        row("DENIED alone", net, "5/0/5(1,0,0)");
        server("the holder is not revoked", net, "1 0 4 0 0 -1");
    }

    private static void waitingAgainDoesNotPreempt() {
        TalkNet net = Check.with(0, 2, 3);
        net.rules(0, true, 50, 50, 20);
        Check.ask(net, 0, 0, false);
        Check.ask(net, 0, 1, false);
        net.member(0, 1, 7);
        net.again(0, 1);
        net.carry(0);
        row("an equal REQUEST revokes nobody", net, "4/0/1(1,0,0)");
        server("the holder is not revoked", net, "1 0 1 0 0 -1");
    }

    /** "REVOKED to the holder, who is revoked from this tick on." */
    private static void revokedFromThisTickOn() {
        TalkNet net = Check.with(0, 2, 0);
        net.rules(0, true, 100, 50, 3);
        Check.ask(net, 0, 0, false);
        Check.ticks(net, 10);
        net.press(0, 1, true);
        Check.ticks(net, 2);
        Check.dropAll(net);
        net.again(0, 1);
        net.carry(0);
        server("when it was heard", net, "1 0 1 1 0 -1");
        Check.dropAll(net);
        Check.ticks(net, 2);
        server("2 ticks", net, "1 0 1 1 0 -1");
        net.tick();
        server("3 ticks", net, "2 1 0 0 15 -1");
    }

    /** Promise 16: "the holder (-1) ... whether the holder was revoked ... since when it holds (-1) ... (-1)" */
    private static void tellsNothingOfNoHolder() {
        TalkNet net = Check.with(0, 2, 0);
        net.rules(0, true, 100, 50, 20);
        Check.ticks(net, 3);
        Check.ask(net, 0, 0, false);
        net.unit(0, 0, 1);
        Check.carryAll(net);
        Check.ask(net, 0, 1, true);
        server("revoked", net, "1 0 1 1 3 3");
        net.leave(0, 1);
        server("still, when the other is gone", net, "1 0 0 1 3 3");
        net.leave(0, 0);
        server("nobody holds", net, "1 -1 0 0 -1 -1");
    }

    private static void groupsAreApart() {
        TalkNet net = Check.with(0, 2, 0);
        net.member(2, 0, 0);
        net.member(2, 1, 0);
        Check.ask(net, 0, 0, false);
        Check.ask(net, 2, 1, false);
        Check.ask(net, 2, 0, false);
        Check.due("server 0", Check.server(net, 0), "1 0 0 0 0 -1");
        Check.due("server 1", Check.server(net, 1), "0 -1 0 0 -1 -1");
        Check.due("server 2", Check.server(net, 2), "1 1 1 0 0 -1");
        Check.due("waiting 2", Check.waiting(net, 2), "0");
        Check.due("relay 2", Check.relay(net, 2), "1 1 0 0");
    }
}
