/** Promises 2 and 15: rules, time, and what a tick ends and tells. */
public final class TickTest {
    public static void main(String[] args) {
        longest();
        idle();
        idleSinceTheLastUnit();
        unitOfAnotherGrant();
        grace();
        graceOfNone();
        rulesOfTheGrantHold();
        endedFirst();
        talkerEveryFive();
        talkerAfterANewGrant();
        allGroups();
        Check.end();
    }

    private static TalkNet holding(boolean preempts, int longest, int idle, int grace) {
        TalkNet net = Check.with(0, 3, 0);
        net.rules(0, preempts, longest, idle, grace);
        Check.ticks(net, 10);
        Check.ask(net, 0, 0, false);
        return net;
    }

    private static int holderAfter(TalkNet net, int ticks) {
        Check.ticks(net, ticks);
        return net.server(0, 1);
    }

    private static void longest() {
        TalkNet net = holding(false, 7, 50, 0);
        Check.due("6 ticks", holderAfter(net, 6), 0);
        Check.due("7 ticks", holderAfter(net, 1), -1);
        Check.due("server", Check.server(net, 0), "1 -1 0 0 -1 -1");
        Check.due("one tick", holderAfter(holding(false, 1, 50, 0), 1), -1);
        TalkNet most = holding(false, 100, 50, 0);
        for (int i = 0; i < 60; i++) {
            most.unit(0, 0, i);
            most.run(200);
            most.tick();
        }
        Check.due("99 ticks", holderAfter(most, 39), 0);
        Check.due("100 ticks", holderAfter(most, 1), -1);
    }

    private static void idle() {
        TalkNet net = holding(false, 100, 4, 0);
        Check.due("3 ticks", holderAfter(net, 3), 0);
        Check.due("4 ticks", holderAfter(net, 1), -1);
        Check.due("one tick", holderAfter(holding(false, 100, 1, 0), 1), -1);
    }

    private static void idleSinceTheLastUnit() {
        TalkNet net = holding(false, 100, 4, 0);
        Check.ticks(net, 3);
        net.unit(0, 0, 1);
        net.carry(0);
        Check.due("server knows the tick", Check.server(net, 0), "1 0 0 0 10 13");
        Check.due("3 ticks", holderAfter(net, 3), 0);
        Check.due("4 ticks", holderAfter(net, 1), -1);
        TalkNet stopped = holding(false, 100, 4, 0);
        stopped.unit(0, 0, 1);
        stopped.twice(0);
        Check.ticks(stopped, 3);
        stopped.carry(0);
        Check.due("a stopped unit does not count", Check.server(stopped, 0), "1 0 0 0 10 10");
        Check.due("4 ticks", holderAfter(stopped, 1), -1);
    }

    private static void unitOfAnotherGrant() {
        TalkNet net = holding(false, 100, 4, 0);
        net.unit(0, 0, 1);
        Check.ask(net, 0, 1, false);
        net.unit(0, 0, 2);
        net.release(0, 0);
        net.carry(1);
        Check.due("the next holds", Check.server(net, 0), "2 1 0 0 10 -1");
        net.carry(0);
        Check.due("the relay still passes", Check.relay(net, 0), "1 0 2 0");
        Check.due("the server's holder has another grant", Check.server(net, 0), "2 1 0 0 10 -1");
        TalkNet none = holding(false, 100, 4, 0);
        none.unit(0, 0, 1);
        none.leave(0, 0);
        none.carry(0);
        Check.due("passed", Check.relay(none, 0), "1 0 1 0");
        Check.due("there is no holder", Check.server(none, 0), "1 -1 0 0 -1 -1");
    }

    private static void grace() {
        TalkNet net = holding(true, 100, 50, 3);
        Check.ticks(net, 5);
        Check.ask(net, 0, 1, true);
        Check.due("revoked", Check.server(net, 0), "1 0 1 1 10 -1");
        Check.due("2 ticks", holderAfter(net, 2), 0);
        Check.due("3 ticks", holderAfter(net, 1), 1);
        Check.due("server", Check.server(net, 0), "2 1 0 0 18 -1");
        TalkNet shorter = holding(true, 6, 50, 20);
        Check.ask(shorter, 0, 1, true);
        Check.due("longest ends a revoked one, too", holderAfter(shorter, 5) * 10 + holderAfter(shorter, 1), 1);
    }

    private static void graceOfNone() {
        TalkNet net = holding(true, 100, 50, 0);
        Check.ask(net, 0, 1, true);
        Check.due("not before a tick", net.server(0, 1), 0);
        Check.due("a tick", holderAfter(net, 1), 1);
    }

    private static void rulesOfTheGrantHold() {
        TalkNet net = holding(true, 8, 6, 2);
        net.rules(0, false, 1, 1, 0);
        Check.due("5 ticks", holderAfter(net, 5), 0);
        Check.due("6 ticks", holderAfter(net, 1), -1);
        Check.dropAll(net);
        Check.ask(net, 0, 1, false);
        Check.due("the next grant has the new ones", holderAfter(net, 1), -1);
        TalkNet slow = holding(true, 8, 6, 2);
        slow.rules(0, true, 100, 50, 20);
        Check.ask(slow, 0, 1, true);
        Check.due("grace", holderAfter(slow, 1) * 10 + holderAfter(slow, 1), 1);
        otherGroupsKeepTheirs();
    }

    private static void otherGroupsKeepTheirs() {
        TalkNet net = new TalkNet();
        net.rules(1, false, 1, 1, 0);
        for (int g = 0; g < 3; g++) {
            net.member(g, 0, 0);
            Check.ask(net, g, 0, false);
        }
        net.tick();
        Check.due("holders", net.server(0, 1) + " " + net.server(1, 1) + " " + net.server(2, 1), "0 -1 0");
    }

    private static void endedFirst() {
        TalkNet net = holding(false, 2, 50, 0);
        Check.ask(net, 0, 2, false);
        Check.ticks(net, 2);
        Check.due("ENDED, then the next", Check.row(net),
                "7/0/0(1,0,0) 3/0/2(1,2,0) 10/0/2(2,2,0) 8/0/0(2,2,0) 8/0/1(2,2,0)");
        Check.dropAll(net);
        Check.ticks(net, 2);
        Check.due("ENDED, then nobody", Check.row(net), "7/0/2(2,0,0) 10/0/0(2,-1,0)");
        net.carry(0);
        Check.due("it did not know of its grant", net.about(0, 2, 2), 2);
    }

    private static void talkerEveryFive() {
        TalkNet net = Check.with(1, 2, 0);
        net.member(1, 4, 0);
        Check.ticks(net, 5);
        Check.due("no holder, no TALKER", net.messages(), 0);
        net.press(1, 1, false);
        net.carry(0);
        Check.dropAll(net);
        Check.ticks(net, 4);
        Check.due("time 9", net.messages(), 0);
        net.tick();
        Check.due("time 10", Check.row(net), "8/1/0(1,1,0) 8/1/4(1,1,0)");
        Check.ticks(net, 5);
        Check.due("time 15", net.messages(), 4);
        Check.carryAll(net);
        Check.due("they see it talk", net.about(1, 0, 7) + " " + net.about(1, 4, 7), "1 1");
    }

    private static void talkerAfterANewGrant() {
        TalkNet net = holding(false, 5, 50, 0);
        Check.ask(net, 0, 1, false);
        Check.ticks(net, 5);
        Check.due("the new holder is told twice", Check.row(net),
                "7/0/0(1,0,0) 3/0/1(1,2,0) 10/0/1(2,1,0) 8/0/0(2,1,0) 8/0/2(2,1,0) 8/0/0(2,1,0) 8/0/2(2,1,0)");
        Check.dropAll(net);
        Check.ticks(net, 5);
        Check.due("no holder any more", Check.row(net), "7/0/1(2,0,0) 10/0/0(2,-1,0)");
    }

    private static void allGroups() {
        TalkNet net = new TalkNet();
        for (int g = 0; g < 3; g++) {
            net.rules(g, false, 5, 50, 0);
            net.member(g, 0, 0);
            net.member(g, 1, 0);
        }
        Check.ask(net, 2, 0, false);
        Check.ask(net, 0, 1, false);
        Check.due("time", Check.ticks(net, 5), 5);
        Check.due("by group", Check.row(net),
                "7/0/1(1,0,0) 10/0/0(1,-1,0) 7/2/0(1,0,0) 10/2/0(1,-1,0)");
    }
}
