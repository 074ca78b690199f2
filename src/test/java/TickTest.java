/** Promise 15: time, what a tick ends, and whom it tells. (What a tick plays: ListenerTest; the bounds: BoundsTest.) */
public final class TickTest {
    public static void main(String[] args) {
        timeGrowsByOne();
        longest();
        idleSinceItBegan();
        idleSinceTheLastUnit();
        idleSinceAUnitOfAnotherGrant();
        grace();
        graceSinceItWasRevoked();
        longestAndIdleEndARevokedOne();
        notRevokedHasNoGrace();
        endedFirst();
        endsOneInATick();
        talkerEveryFive();
        talkerBehindANewGrant();
        talkerNotBehindTheEnd();
        talkerToOthersAlone();
        groupByGroup();
        Check.end();
    }

    private static TalkNet holding(boolean preempts, int longest, int idle, int grace) {
        TalkNet net = Check.with(0, 3, 0);
        net.rules(0, preempts, longest, idle, grace);
        Check.ticks(net, 10);
        Check.ask(net, 0, 0, false);
        return net;
    }

    private static int holderAfter(TalkNet net, int ticks) {
        Check.ticks(net, ticks);
        return net.server(0, 1);
    }

    private static void server(String what, TalkNet net, String want) {
        Check.due(what, Check.server(net, 0), want);
    }

    /** Promise 15: "A TICK: the time." */
    private static void timeGrowsByOne() {
        TalkNet net = new TalkNet();
        for (int time = 1; time <= 30; time++) {
            Check.due("time", net.tick(), time);
        }
        Check.due("nothing is sent", net.messages(), 0);
    }

    /** "or its grant began LONGEST ticks ago or more": not less, and not since time 0. */
    private static void longest() {
        TalkNet net = holding(false, 7, 50, 0);
        Check.due("6 ticks", holderAfter(net, 6), 0);
        Check.due("7 ticks", holderAfter(net, 1), -1);
        server("nobody holds", net, "1 -1 0 0 -1 -1");
        TalkNet talks = holding(false, 7, 3, 0);
        for (int i = 0; i < 6; i++) {
            talks.unit(0, 0, i);
            talks.carry(talks.messages() - 1);
            Check.due("it talks for " + (i + 1), holderAfter(talks, 1), 0);
        }
        talks.unit(0, 0, 6);
        talks.carry(talks.messages() - 1);
        Check.due("7 ticks, though it talks", holderAfter(talks, 1), -1);
    }

    /** "or IDLE ticks went by since ... (... it began)" */
    private static void idleSinceItBegan() {
        TalkNet net = holding(false, 100, 4, 0);
        Check.due("3 ticks", holderAfter(net, 3), 0);
        Check.due("4 ticks", holderAfter(net, 1), -1);
    }

    /** "since the last unit was passed" */
    private static void idleSinceTheLastUnit() {
        TalkNet net = holding(false, 100, 4, 0);
        Check.ticks(net, 3);
        net.unit(0, 0, 1);
        net.unit(0, 0, 2);
        net.carry(0);
        server("the server knows the tick", net, "1 0 0 0 10 13");
        Check.due("3 ticks", holderAfter(net, 3), 0);
        net.carry(0);
        server("and the next", net, "1 0 0 0 10 16");
        Check.due("3 ticks", holderAfter(net, 3), 0);
        Check.due("4 ticks", holderAfter(net, 1), -1);

        TalkNet stopped = holding(false, 100, 4, 0);
        stopped.unit(0, 0, 1);
        stopped.twice(0);
        Check.ticks(stopped, 3);
        stopped.carry(0);
        server("a stopped unit does not count", stopped, "1 0 0 0 10 10");
        Check.due("4 ticks", holderAfter(stopped, 1), -1);

        TalkNet sent = holding(false, 100, 4, 0);
        Check.ticks(sent, 3);
        sent.unit(0, 0, 1);
        Check.due("nor one that is but sent", holderAfter(sent, 1), -1);
    }

    private static void idleSinceAUnitOfAnotherGrant() {
        TalkNet net = holding(false, 100, 4, 0);
        Check.ask(net, 0, 1, false);
        net.unit(0, 0, 2);
        net.release(0, 0);
        net.carry(1);
        Check.ticks(net, 3);
        net.carry(0);
        Check.due("the relay still passes", Check.relay(net, 0), "1 0 1 0");
        server("the holder has another grant", net, "2 1 0 0 10 -1");
        Check.due("4 ticks", holderAfter(net, 1), -1);
    }

    /** "it was revoked GRACE ticks ago or more" */
    private static void grace() {
        TalkNet net = holding(true, 100, 50, 3);
        Check.ask(net, 0, 1, true);
        Check.due("2 ticks", holderAfter(net, 2), 0);
        Check.due("3 ticks", holderAfter(net, 1), 1);
        server("the next is not revoked", net, "2 1 0 0 13 -1");
        TalkNet none = holding(true, 100, 50, 0);
        Check.ask(none, 0, 1, true);
        Check.due("no grace: not before a tick", none.server(0, 1), 0);
        Check.due("no grace: a tick", holderAfter(none, 1), 1);
    }

    private static void graceSinceItWasRevoked() {
        TalkNet net = holding(true, 100, 50, 3);
        Check.ticks(net, 5);
        Check.ask(net, 0, 1, true);
        server("revoked", net, "1 0 1 1 10 -1");
        Check.due("2 ticks", holderAfter(net, 2), 0);
        net.unit(0, 0, 1);
        Check.carryAll(net);
        Check.due("3 ticks, though it talks", holderAfter(net, 1), 1);
        server("the next", net, "2 1 0 0 18 -1");
    }

    private static void longestAndIdleEndARevokedOne() {
        TalkNet longest = holding(true, 6, 50, 20);
        Check.ask(longest, 0, 1, true);
        Check.due("longest, 5 ticks", holderAfter(longest, 5), 0);
        Check.due("longest, 6 ticks", holderAfter(longest, 1), 1);
        TalkNet idle = holding(true, 100, 6, 20);
        Check.ask(idle, 0, 1, true);
        Check.due("idle, 5 ticks", holderAfter(idle, 5), 0);
        Check.due("idle, 6 ticks", holderAfter(idle, 1), 1);
    }

    private static void notRevokedHasNoGrace() {
        TalkNet net = holding(true, 100, 50, 0);
        Check.ask(net, 0, 1, false);
        Check.due("49 ticks", holderAfter(net, 49), 0);
        TalkNet next = holding(true, 100, 50, 2);
        Check.ask(next, 0, 1, true);
        Check.ticks(next, 2);
        server("the next holds", next, "2 1 0 0 12 -1");
        Check.due("it was not revoked: 49 ticks", holderAfter(next, 49), 1);
        Check.due("50 ticks", holderAfter(next, 1), -1);
    }

    /** "it is freed, ENDED to it first" */
    private static void endedFirst() {
        TalkNet net = holding(false, 2, 50, 0);
        Check.ask(net, 0, 2, false);
        Check.ticks(net, 2);
        Check.due("ENDED, then the next", Check.row(net),
                "7/0/0(1,0,0) 3/0/2(1,2,0) 10/0/2(2,2,0) 8/0/0(2,2,0) 8/0/1(2,2,0)");
        server("the next", net, "2 2 0 0 12 -1");
        Check.dropAll(net);
        Check.ticks(net, 2);
        Check.due("ENDED, then nobody", Check.row(net), "7/0/2(2,0,0) 10/0/0(2,-1,0)");
        net.carry(0);
        Check.due("it did not know of its grant", net.about(0, 2, 2), 2);
    }

    private static void endsOneInATick() {
        TalkNet net = holding(true, 1, 1, 0);
        Check.ask(net, 0, 1, true);
        Check.ask(net, 0, 2, true);
        Check.due("the first that waits", holderAfter(net, 1), 1);
        Check.due("ENDED once, though all three say so", Check.row(net),
                "7/0/0(1,0,0) 3/0/1(1,2,0) 10/0/1(2,1,0) 8/0/0(2,1,0) 8/0/2(2,1,0)");
        Check.due("the second", holderAfter(net, 1), 2);
        Check.due("nobody", holderAfter(net, 1), -1);
    }

    /** "If time is a multiple of 5, and there is a holder: TALKER to all others that are there." */
    private static void talkerEveryFive() {
        TalkNet net = Check.with(1, 2, 0);
        net.member(1, 4, 0);
        net.rules(1, false, 100, 50, 5);
        Check.ticks(net, 5);
        Check.due("no holder, no TALKER", net.messages(), 0);
        net.press(1, 1, false);
        net.carry(0);
        Check.dropAll(net);
        for (int time = 6; time <= 31; time++) {
            net.tick();
            Check.due("time " + time, Check.row(net), time % 5 == 0 ? "8/1/0(1,1,0) 8/1/4(1,1,0)" : "");
            Check.carryAll(net);
        }
        Check.due("they see it talk", net.about(1, 0, 7) + " " + net.about(1, 4, 7), "1 1");
    }

    private static void talkerBehindANewGrant() {
        TalkNet net = holding(false, 5, 50, 0);
        Check.ask(net, 0, 1, false);
        Check.ticks(net, 5);
        Check.due("the new holder is told twice", Check.row(net),
                "7/0/0(1,0,0) 3/0/1(1,2,0) 10/0/1(2,1,0) 8/0/0(2,1,0) 8/0/2(2,1,0) 8/0/0(2,1,0) 8/0/2(2,1,0)");
    }

    private static void talkerNotBehindTheEnd() {
        TalkNet net = holding(false, 5, 50, 0);
        Check.ticks(net, 5);
        Check.due("no holder any more", Check.row(net), "7/0/0(1,0,0) 10/0/0(1,-1,0)");
    }

    private static void talkerToOthersAlone() {
        TalkNet net = Check.with(0, 1, 0);
        Check.ask(net, 0, 0, false);
        Check.ticks(net, 5);
        Check.due("no others are there", net.messages(), 0);
        net.member(0, 5, 0);
        net.member(1, 0, 0);
        Check.ticks(net, 5);
        Check.due("one that came behind the grant", Check.row(net), "8/0/5(1,0,0)");
    }

    /** "then for each group" */
    private static void groupByGroup() {
        TalkNet net = new TalkNet();
        for (int g = 0; g < 3; g++) {
            net.rules(g, false, g == 1 ? 100 : 5, 50, 0);
            net.member(g, 0, 0);
            net.member(g, 1, 0);
            Check.ask(net, g, 1, false);
        }
        Check.due("time", Check.ticks(net, 5), 5);
        Check.due("by group", Check.row(net), "7/0/1(1,0,0) 10/0/0(1,-1,0) 8/1/0(1,1,0) 7/2/1(1,0,0) 10/2/0(1,-1,0)");
    }
}
