/** Promises 16 and 17, and what the server does when a REQUEST or a RELEASE comes. */
public final class ServerTest {
    public static void main(String[] args) {
        grantsTheFloor();
        ordersTheRow();
        priorityIsAsItWasHeard();
        deniesWhenFourWait();
        answersTheSameRequest();
        olderRequestIsNothing();
        greaterRequestFreesTheFloor();
        greaterRequestFreesForTheNext();
        greaterRequestWaitsAnew();
        releaseFrees();
        releaseLeavesTheRow();
        olderReleaseIsNothing();
        greaterReleaseCounts();
        greaterReleaseForgetsDenied();
        preempts();
        preemptsNot();
        preemptsByTheHoldersPriorityAsHeard();
        deniedDoesNotPreempt();
        groupsAreApart();
        Check.end();
    }

    private static TalkNet allThere(int group) {
        return Check.with(group, 6, 0);
    }

    private static void grantsTheFloor() {
        TalkNet net = Check.with(1, 2, 0);
        net.member(1, 5, 0);
        Check.ticks(net, 7);
        net.press(1, 1, false);
        net.carry(0);
        Check.due("server", Check.server(net, 1), "1 1 0 0 7 -1");
        Check.due("row", Check.row(net), "3/1/1(1,1,0) 10/1/1(1,1,0) 8/1/0(1,1,0) 8/1/5(1,1,0)");
        Check.carryAll(net);
        Check.due("member", Check.about(net, 1, 1, 2, 6), "3 1 0 1 0");
    }

    private static void ordersTheRow() {
        TalkNet net = new TalkNet();
        int[] priorities = {7, 1, 5, 5, 0, 7};
        for (int m = 0; m < 6; m++) {
            net.member(0, m, priorities[m]);
        }
        Check.ask(net, 0, 0, false);
        Check.ask(net, 0, 1, false);
        Check.ask(net, 0, 2, false);
        Check.due("greater priorities first", Check.waiting(net, 0), "2 1");
        Check.ask(net, 0, 3, false);
        Check.due("what was heard earlier first", Check.waiting(net, 0), "2 3 1");
        net.press(0, 4, true);
        net.carry(0);
        Check.due("emergencies first", Check.waiting(net, 0), "4 2 3 1");
        Check.due("its place", Check.row(net), "4/0/4(1,0,0)");
        Check.due("server", Check.server(net, 0), "1 0 4 0 0 -1");
        Check.due("a place that was told stays", net.about(0, 1, 4), 0);
        Check.due("place of the second of equals", net.about(0, 3, 4), 1);
        emergenciesByPriority();
    }

    private static void emergenciesByPriority() {
        TalkNet net = new TalkNet();
        for (int m = 0; m < 5; m++) {
            net.member(0, m, m);
        }
        Check.ask(net, 0, 0, false);
        Check.ask(net, 0, 1, true);
        Check.ask(net, 0, 4, false);
        Check.ask(net, 0, 2, true);
        Check.ask(net, 0, 3, false);
        Check.due("waiting", Check.waiting(net, 0), "2 1 4 3");
    }

    private static void priorityIsAsItWasHeard() {
        TalkNet net = allThere(0);
        Check.ask(net, 0, 0, false);
        Check.ask(net, 0, 1, false);
        net.member(0, 1, 7);
        net.member(0, 2, 3);
        Check.ask(net, 0, 2, false);
        Check.due("waiting", Check.waiting(net, 0), "2 1");
        net.press(0, 3, false);
        net.member(0, 3, 5);
        Check.carryAll(net);
        Check.due("heard when it came, not when it was sent", Check.waiting(net, 0), "3 2 1");
    }

    private static void deniesWhenFourWait() {
        TalkNet net = allThere(0);
        for (int m = 0; m < 5; m++) {
            Check.ask(net, 0, m, false);
        }
        Check.due("four wait", Check.waiting(net, 0), "1 2 3 4");
        net.press(0, 5, true);
        net.carry(0);
        Check.due("DENIED", Check.row(net), "5/0/5(1,0,0)");
        Check.carryAll(net);
        Check.due("state", Check.about(net, 0, 5, 2, 4), "0 1 0");
        Check.due("waiting", Check.waiting(net, 0), "1 2 3 4");
        net.leave(0, 4);
        net.press(0, 5, false);
        net.carry(0);
        Check.due("there is a place again", Check.row(net), "4/0/5(2,3,0)");
    }

    private static void answersTheSameRequest() {
        TalkNet net = allThere(0);
        for (int m = 0; m < 6; m++) {
            net.press(0, m, false);
        }
        for (int m = 0; m < 6; m++) {
            net.twice(m);
        }
        while (net.messages() > 6) {
            net.drop(6);
        }
        String before = Check.server(net, 0) + " " + Check.waiting(net, 0);
        net.run(6);
        Check.due("answers", Check.row(net),
                "3/0/0(1,1,0) 4/0/1(1,0,0) 4/0/2(1,1,0) 4/0/3(1,2,0) 4/0/4(1,3,0) 5/0/5(1,0,0)");
        Check.due("nothing else", Check.server(net, 0) + " " + Check.waiting(net, 0), before);
        sameRequestInAnotherPlace();
        sameRequestAfterItsEnd();
    }

    private static void sameRequestInAnotherPlace() {
        TalkNet net = allThere(0);
        Check.ask(net, 0, 0, false);
        Check.ask(net, 0, 1, false);
        Check.ask(net, 0, 2, true);
        net.again(0, 1);
        net.carry(0);
        Check.due("its place now", Check.row(net), "4/0/1(1,1,0)");
    }

    private static void sameRequestAfterItsEnd() {
        TalkNet net = Check.with(0, 1, 0);
        net.press(0, 0, false);
        net.twice(0);
        net.release(0, 0);
        net.carry(net.messages() - 1);
        while (net.messages() > 1) {
            net.drop(1);
        }
        net.carry(0);
        Check.due("a request that was released gets no answer", net.messages(), 0);
        Check.due("server", Check.server(net, 0), "1 -1 0 0 -1 -1");
    }

    private static void olderRequestIsNothing() {
        TalkNet net = Check.with(0, 2, 0);
        net.press(0, 0, false);
        net.release(0, 0);
        net.press(0, 0, true);
        net.carry(2);
        Check.due("server", Check.server(net, 0), "1 0 0 0 0 -1");
        net.carry(0);
        net.carry(0);
        Check.due("row", Check.row(net), "3/0/0(2,1,0) 10/0/0(1,0,0) 8/0/1(1,0,0)");
        Check.due("server", Check.server(net, 0), "1 0 0 0 0 -1");
    }

    private static void greaterRequestFreesTheFloor() {
        TalkNet net = Check.with(0, 2, 0);
        Check.ask(net, 0, 0, false);
        net.release(0, 0);
        net.drop(0);
        Check.ticks(net, 3);
        net.press(0, 0, false);
        net.carry(0);
        Check.due("freed without ENDED, then granted", Check.row(net),
                "10/0/0(1,-1,0) 3/0/0(2,2,0) 10/0/0(2,0,0) 8/0/1(2,0,0)");
        Check.due("server", Check.server(net, 0), "2 0 0 0 3 -1");
    }

    private static void greaterRequestFreesForTheNext() {
        TalkNet net = Check.with(0, 3, 0);
        net.rules(0, true, 50, 50, 20);
        Check.ask(net, 0, 0, false);
        Check.ask(net, 0, 1, false);
        net.release(0, 0);
        net.drop(0);
        net.press(0, 0, true);
        net.carry(0);
        Check.due("the next is granted, the emergency revokes it", Check.row(net),
                "3/0/1(1,2,0) 10/0/1(2,1,0) 8/0/0(2,1,0) 8/0/2(2,1,0) 4/0/0(2,0,0) 6/0/1(2,0,0)");
        Check.due("server", Check.server(net, 0), "2 1 1 1 0 -1");
    }

    private static void greaterRequestWaitsAnew() {
        TalkNet net = allThere(0);
        for (int m = 0; m < 5; m++) {
            Check.ask(net, 0, m, false);
        }
        net.release(0, 1);
        net.drop(0);
        net.press(0, 1, false);
        net.carry(0);
        Check.due("its old place goes first, so it is not denied", Check.row(net), "4/0/1(2,3,0)");
        Check.due("waiting", Check.waiting(net, 0), "2 3 4 1");
    }

    private static void releaseFrees() {
        TalkNet net = Check.with(0, 3, 0);
        Check.ask(net, 0, 0, false);
        Check.ask(net, 0, 2, false);
        Check.ticks(net, 2);
        net.release(0, 0);
        net.carry(0);
        Check.due("the first that waits", Check.row(net),
                "3/0/2(1,2,0) 10/0/2(2,2,0) 8/0/0(2,2,0) 8/0/1(2,2,0)");
        Check.due("server", Check.server(net, 0), "2 2 0 0 2 -1");
        Check.carryAll(net);
        net.release(0, 2);
        net.twice(0);
        Check.due("nobody waits", Check.row(net), "2/0/2(1,0,0) 10/0/0(2,-1,0)");
        net.carry(0);
        Check.due("a second time frees nothing", Check.row(net), "10/0/0(2,-1,0)");
        Check.due("server", Check.server(net, 0), "2 -1 0 0 -1 -1");
    }

    private static void releaseLeavesTheRow() {
        TalkNet net = Check.with(0, 4, 0);
        for (int m = 0; m < 4; m++) {
            Check.ask(net, 0, m, false);
        }
        net.release(0, 1);
        net.carry(0);
        Check.due("waiting", Check.waiting(net, 0), "2 3");
        Check.due("no message", net.messages(), 0);
        net.release(0, 3);
        net.carry(0);
        Check.due("waiting", Check.waiting(net, 0), "2");
    }

    private static void olderReleaseIsNothing() {
        TalkNet net = Check.with(0, 2, 0);
        Check.ask(net, 0, 0, false);
        net.release(0, 0);
        net.press(0, 0, false);
        net.carry(1);
        Check.due("server", Check.server(net, 0), "2 0 0 0 0 -1");
        net.carry(0);
        Check.due("server", Check.server(net, 0), "2 0 0 0 0 -1");
    }

    private static void greaterReleaseCounts() {
        TalkNet net = Check.with(0, 2, 0);
        Check.ask(net, 0, 0, false);
        net.release(0, 0);
        net.drop(0);
        net.press(0, 0, false);
        net.release(0, 0);
        net.carry(1);
        Check.due("what it held is freed", Check.server(net, 0), "1 -1 0 0 -1 -1");
        Check.due("row", Check.row(net), "1/0/0(2,0,0) 10/0/0(1,-1,0)");
        net.carry(0);
        Check.due("its request comes behind: nothing", Check.row(net), "10/0/0(1,-1,0)");
        Check.due("server", Check.server(net, 0), "1 -1 0 0 -1 -1");
        greaterReleaseOfOneThatWaits();
    }

    private static void greaterReleaseOfOneThatWaits() {
        TalkNet net = Check.with(0, 3, 0);
        for (int m = 0; m < 3; m++) {
            Check.ask(net, 0, m, false);
        }
        net.release(0, 1);
        net.drop(0);
        net.press(0, 1, false);
        net.release(0, 1);
        net.carry(1);
        Check.due("waiting", Check.waiting(net, 0), "2");
        net.carry(0);
        Check.due("waiting", Check.waiting(net, 0), "2");
        Check.due("row", Check.row(net), "");
    }

    private static void greaterReleaseForgetsDenied() {
        TalkNet net = allThere(0);
        for (int m = 0; m < 6; m++) {
            Check.ask(net, 0, m, false);
        }
        net.press(0, 5, false);
        net.release(0, 5);
        net.carry(1);
        net.carry(0);
        Check.due("a number that was never denied gets no DENIED", Check.row(net), "");
        deniedOneAnswersDenied();
    }

    private static void deniedOneAnswersDenied() {
        TalkNet net = allThere(0);
        for (int m = 0; m < 5; m++) {
            Check.ask(net, 0, m, false);
        }
        net.press(0, 5, false);
        net.twice(0);
        net.release(0, 5);
        net.carry(2);
        net.drop(1);
        net.leave(0, 4);
        net.carry(0);
        Check.due("denied stays denied", Check.row(net), "5/0/5(1,0,0)");
        Check.due("waiting", Check.waiting(net, 0), "1 2 3");
    }

    private static TalkNet pair(boolean preempts, int first, boolean firstEmergency, int second) {
        TalkNet net = new TalkNet();
        net.rules(0, preempts, 50, 50, 20);
        net.member(0, 0, first);
        net.member(0, 1, second);
        net.member(0, 2, 7);
        Check.ask(net, 0, 0, firstEmergency);
        Check.ticks(net, 1);
        return net;
    }

    private static void preempts() {
        TalkNet greater = pair(true, 3, false, 4);
        greater.press(0, 1, false);
        greater.carry(0);
        Check.due("a greater priority", Check.row(greater), "4/0/1(1,0,0) 6/0/0(1,0,0)");
        Check.due("server", Check.server(greater, 0), "1 0 1 1 0 -1");
        greater.press(0, 2, true);
        greater.carry(2);
        Check.due("it is revoked already", Check.row(greater), "4/0/1(1,0,0) 6/0/0(1,0,0) 4/0/2(1,0,0)");

        TalkNet emergency = pair(true, 7, false, 0);
        emergency.press(0, 1, true);
        emergency.carry(0);
        Check.due("an emergency", Check.row(emergency), "4/0/1(1,0,0) 6/0/0(1,0,0)");

        TalkNet both = pair(true, 3, true, 4);
        both.press(0, 1, true);
        both.carry(0);
        Check.due("a greater priority, both emergencies", Check.row(both), "4/0/1(1,0,0) 6/0/0(1,0,0)");
    }

    private static void preemptsNot() {
        TalkNet calm = pair(false, 0, false, 7);
        calm.press(0, 1, true);
        calm.carry(0);
        Check.due("the group preempts not", Check.row(calm), "4/0/1(1,0,0)");

        TalkNet equal = pair(true, 3, false, 3);
        equal.press(0, 1, false);
        equal.carry(0);
        Check.due("an equal priority", Check.row(equal), "4/0/1(1,0,0)");

        TalkNet holder = pair(true, 0, true, 7);
        holder.press(0, 1, false);
        holder.carry(0);
        Check.due("the holder's is an emergency", Check.row(holder), "4/0/1(1,0,0)");

        TalkNet equalBoth = pair(true, 3, true, 3);
        equalBoth.press(0, 1, true);
        equalBoth.carry(0);
        Check.due("an equal priority, both emergencies", Check.row(equalBoth), "4/0/1(1,0,0)");

        TalkNet later = pair(false, 0, false, 7);
        later.rules(0, true, 50, 50, 20);
        later.press(0, 1, true);
        later.carry(0);
        Check.due("by the holder's rules", Check.row(later), "4/0/1(1,0,0)");

        TalkNet earlier = pair(true, 0, false, 7);
        earlier.rules(0, false, 50, 50, 20);
        earlier.press(0, 1, false);
        earlier.carry(0);
        Check.due("by the holder's rules", Check.row(earlier), "4/0/1(1,0,0) 6/0/0(1,0,0)");
    }

    private static void preemptsByTheHoldersPriorityAsHeard() {
        TalkNet net = pair(true, 3, false, 5);
        net.member(0, 0, 6);
        net.press(0, 1, false);
        net.carry(0);
        Check.due("row", Check.row(net), "4/0/1(1,0,0) 6/0/0(1,0,0)");
    }

    private static void deniedDoesNotPreempt() {
        TalkNet net = allThere(0);
        net.rules(0, true, 50, 50, 20);
        for (int m = 0; m < 5; m++) {
            Check.ask(net, 0, m, false);
        }
        net.press(0, 5, true);
        net.carry(0);
        Check.due("row", Check.row(net), "5/0/5(1,0,0)");
        Check.due("server", Check.server(net, 0), "1 0 4 0 0 -1");
    }

    private static void groupsAreApart() {
        TalkNet net = Check.with(0, 2, 0);
        net.member(2, 0, 0);
        net.member(2, 1, 0);
        Check.ask(net, 0, 0, false);
        Check.ask(net, 2, 1, false);
        Check.ask(net, 2, 0, false);
        Check.due("server 0", Check.server(net, 0), "1 0 0 0 0 -1");
        Check.due("server 1", Check.server(net, 1), "0 -1 0 0 -1 -1");
        Check.due("server 2", Check.server(net, 2), "1 1 1 0 0 -1");
        Check.due("waiting 2", Check.waiting(net, 2), "0");
        Check.due("relay 2", Check.relay(net, 2), "1 1 0 0");
    }
}
