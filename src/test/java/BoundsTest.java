/** The first paragraph of "Terms": the bounds of groups, members, priorities, time and rules, and what holds at them. */
public final class BoundsTest {
    public static void main(String[] args) {
        groupsAreThree();
        membersAreSix();
        prioritiesAreZeroToSeven();
        timeIsZeroAtFirst();
        longestIsOneToHundred();
        idleIsOneToFifty();
        graceIsZeroToTwenty();
        rulesInForceWhenAGrantBegins();
        rulesOfOneThatWaited();
        rulesOfAGrantThatATickBegan();
        rulesOfOneGroup();
        Check.end();
    }

    /** "GROUPS are 0 .. 2": the first and the last have all that a group has, each of its own. */
    private static void groupsAreThree() {
        TalkNet net = new TalkNet();
        for (int g = 0; g <= 2; g++) {
            net.rules(g, true, 50, 50, 20);
            net.member(g, g, 1);
            net.member(g, g + 1, 2 + g);
            Check.ask(net, g, g, false);
            net.unit(g, g, 10 + g);
            net.press(g, g + 1, false);
            Check.due("messages of group " + g, Check.row(net),
                    "11/" + g + "/" + g + "(1,0," + (10 + g) + ") 1/" + g + "/" + (g + 1) + "(1,0,0)");
            Check.carryAll(net);
        }
        for (int g = 0; g <= 2; g++) {
            Check.due("server " + g, Check.server(net, g), "1 " + g + " 1 1 0 0");
            Check.due("waiting " + g, Check.waiting(net, g), "" + (g + 1));
            Check.due("relay " + g, Check.relay(net, g), "1 " + g + " 1 0");
            Check.due("who holds in " + g, Check.about(net, g, g, 0, 6), "1 1 4 1 0 1 1");
            Check.due("who waits in " + g, Check.about(net, g, g + 1, 0, 9), "1 " + (2 + g) + " 2 1 0 0 0 " + g + " 1 1");
        }
        Check.due("leave in group 2", net.leave(2, 2), true);
        Check.due("server 2", Check.server(net, 2), "2 3 0 0 0 -1");
        Check.due("server 0", Check.server(net, 0), "1 0 1 1 0 0");
    }

    /** "MEMBERS 0 .. 5": all six can be there at once, and hear of the first's and the last's grant. */
    private static void membersAreSix() {
        for (int talker : new int[] {0, 5}) {
            TalkNet net = Check.with(1, 6, 4);
            Check.ask(net, 1, talker, false);
            net.unit(1, talker, 3);
            net.carry(0);
            Check.due("PASSED by " + talker, net.messages(), 5);
            Check.carryAll(net);
            for (int m = 0; m <= 5; m++) {
                boolean talks = m == talker;
                Check.due("member " + m + " of talker " + talker, Check.about(net, 1, m, 0, 9),
                        talks ? "1 4 3 1 0 1 1 -1 0 0" : "1 4 0 0 0 0 0 " + talker + " 1 1");
            }
        }
    }

    /** "PRIORITY 0 .. 7": the least and the greatest are told as they are, and are compared as they are. */
    private static void prioritiesAreZeroToSeven() {
        TalkNet net = new TalkNet();
        net.rules(0, true, 50, 50, 20);
        for (int priority = 0; priority <= 7; priority++) {
            net.member(0, 3, priority);
            Check.due("priority " + priority, net.about(0, 3, 1), priority);
        }
        net.member(0, 0, 6);
        net.member(0, 1, 1);
        net.member(0, 2, 0);
        Check.ask(net, 0, 0, false);
        Check.ask(net, 0, 2, false);
        Check.ask(net, 0, 1, false);
        Check.due("1 is above 0", Check.waiting(net, 0), "1 2");
        Check.due("neither is above 6", net.server(0, 3), 0);
        Check.ask(net, 0, 3, false);
        Check.due("7 is above them", Check.waiting(net, 0), "3 1 2");
        Check.due("7 is above 6", net.server(0, 3), 1);
    }

    /** "TIME is a number of ticks, 0 at first." */
    private static void timeIsZeroAtFirst() {
        TalkNet net = Check.with(0, 1, 0);
        Check.ask(net, 0, 0, false);
        Check.due("since when it holds", net.server(0, 4), 0);
        Check.due("the first tick", net.tick(), 1);
        Check.due("the second tick", net.tick(), 2);
        net.unit(0, 0, 1);
        net.carry(0);
        Check.due("when a unit was passed", net.server(0, 5), 2);
        Check.due("100 ticks more", Check.ticks(net, 100), 102);
    }

    /** Member 0, alone in group 0, holds the floor from time 0 on. */
    private static TalkNet alone(int longest, int idle) {
        TalkNet net = Check.with(0, 1, 0);
        net.rules(0, false, longest, idle, 20);
        Check.ask(net, 0, 0, false);
        return net;
    }

    /** Who holds the floor of group 0 then; a unit is passed in each tick before. */
    private static int holderAfterTalking(TalkNet net, int ticks) {
        for (int i = 0; i < ticks; i++) {
            if (net.about(0, 0, 6) < 64 && i % 3 == 0) {
                net.unit(0, 0, i);
                net.carry(net.messages() - 1);
            }
            net.tick();
        }
        return net.server(0, 1);
    }

    private static int holderAfter(TalkNet net, int ticks) {
        Check.ticks(net, ticks);
        return net.server(0, 1);
    }

    /** "LONGEST (1 .. 100)", and "its grant began LONGEST ticks ago or more". */
    private static void longestIsOneToHundred() {
        Check.due("longest 1, no tick", holderAfter(alone(1, 50), 0), 0);
        Check.due("longest 1, 1 tick", holderAfter(alone(1, 50), 1), -1);
        Check.due("longest 2, 1 tick", holderAfter(alone(2, 50), 1), 0);
        Check.due("longest 2, 2 ticks", holderAfter(alone(2, 50), 2), -1);
        Check.due("longest 99, 98 ticks", holderAfterTalking(alone(99, 50), 98), 0);
        Check.due("longest 99, 99 ticks", holderAfterTalking(alone(99, 50), 99), -1);
        Check.due("longest 100, 99 ticks", holderAfterTalking(alone(100, 50), 99), 0);
        Check.due("longest 100, 100 ticks", holderAfterTalking(alone(100, 50), 100), -1);
    }

    /** "IDLE (1 .. 50)", and "IDLE ticks went by since the last unit was passed (or it began)". */
    private static void idleIsOneToFifty() {
        Check.due("idle 1, no tick", holderAfter(alone(100, 1), 0), 0);
        Check.due("idle 1, 1 tick", holderAfter(alone(100, 1), 1), -1);
        Check.due("idle 2, 1 tick", holderAfter(alone(100, 2), 1), 0);
        Check.due("idle 2, 2 ticks", holderAfter(alone(100, 2), 2), -1);
        Check.due("idle 49, 48 ticks", holderAfter(alone(100, 49), 48), 0);
        Check.due("idle 49, 49 ticks", holderAfter(alone(100, 49), 49), -1);
        Check.due("idle 50, 49 ticks", holderAfter(alone(100, 50), 49), 0);
        Check.due("idle 50, 50 ticks", holderAfter(alone(100, 50), 50), -1);
        TalkNet talks = alone(100, 50);
        Check.ticks(talks, 49);
        talks.unit(0, 0, 1);
        talks.carry(0);
        Check.due("idle 50, 49 ticks after a unit", holderAfter(talks, 49), 0);
        Check.due("idle 50, 50 ticks after a unit", holderAfter(talks, 1), -1);
    }

    /** At time 4 the holder, member 0, is revoked for member 1. */
    private static TalkNet revoked(int grace) {
        TalkNet net = Check.with(0, 2, 0);
        net.rules(0, true, 100, 50, grace);
        Check.ask(net, 0, 0, false);
        Check.ticks(net, 4);
        Check.ask(net, 0, 1, true);
        return net;
    }

    /** "GRACE (0 .. 20)", and "it was revoked GRACE ticks ago or more". */
    private static void graceIsZeroToTwenty() {
        Check.due("grace 0, no tick", holderAfter(revoked(0), 0), 0);
        Check.due("grace 0, 1 tick", holderAfter(revoked(0), 1), 1);
        Check.due("grace 1, no tick", holderAfter(revoked(1), 0), 0);
        Check.due("grace 1, 1 tick", holderAfter(revoked(1), 1), 1);
        Check.due("grace 2, 1 tick", holderAfter(revoked(2), 1), 0);
        Check.due("grace 2, 2 ticks", holderAfter(revoked(2), 2), 1);
        Check.due("grace 19, 18 ticks", holderAfter(revoked(19), 18), 0);
        Check.due("grace 19, 19 ticks", holderAfter(revoked(19), 19), 1);
        Check.due("grace 20, 19 ticks", holderAfter(revoked(20), 19), 0);
        Check.due("grace 20, 20 ticks", holderAfter(revoked(20), 20), 1);
    }

    /** "those that are in force when a grant begins hold for it": when the REQUEST comes, not when it is sent. */
    private static void rulesInForceWhenAGrantBegins() {
        TalkNet before = Check.with(0, 1, 0);
        before.rules(0, false, 50, 9, 5);
        before.press(0, 0, false);
        before.rules(0, false, 50, 4, 5);
        Check.carryAll(before);
        Check.due("rules from before it began, 3 ticks", holderAfter(before, 3), 0);
        Check.due("rules from before it began, 4 ticks", holderAfter(before, 1), -1);

        TalkNet after = alone(50, 9);
        after.rules(0, false, 50, 4, 5);
        Check.due("rules from after it began, 8 ticks", holderAfter(after, 8), 0);
        Check.due("rules from after it began, 9 ticks", holderAfter(after, 1), -1);

        TalkNet longer = alone(6, 50);
        longer.rules(0, false, 7, 50, 5);
        Check.due("a greater longest does not hold", holderAfter(longer, 5) * 10 + holderAfter(longer, 1), -1);

        TalkNet grace = Check.with(0, 2, 0);
        grace.rules(0, true, 100, 50, 3);
        Check.ask(grace, 0, 0, false);
        grace.rules(0, true, 100, 50, 2);
        Check.ask(grace, 0, 1, true);
        Check.due("grace from after it began, 2 ticks", holderAfter(grace, 2), 0);
        Check.due("grace from after it began, 3 ticks", holderAfter(grace, 1), 1);
    }

    private static void rulesOfOneThatWaited() {
        TalkNet net = Check.with(0, 3, 0);
        net.rules(0, false, 50, 9, 5);
        Check.ask(net, 0, 0, false);
        Check.ask(net, 0, 1, false);
        net.rules(0, true, 50, 4, 1);
        net.release(0, 0);
        Check.carryAll(net);
        net.rules(0, false, 50, 9, 5);
        Check.ask(net, 0, 2, true);
        Check.due("it preempts by the rules when the floor was granted", Check.server(net, 0), "2 1 1 1 0 -1");
        net.tick();
        Check.due("and so is the grace", Check.server(net, 0), "3 2 0 0 1 -1");
        Check.due("the next has the last rules, 8 ticks", holderAfter(net, 8), 2);
        Check.due("the next has the last rules, 9 ticks", holderAfter(net, 1), -1);
    }

    private static void rulesOfAGrantThatATickBegan() {
        TalkNet net = Check.with(0, 2, 0);
        net.rules(0, false, 2, 50, 5);
        Check.ask(net, 0, 0, false);
        Check.ask(net, 0, 1, false);
        net.rules(0, false, 3, 50, 5);
        Check.due("the first ends at 2", holderAfter(net, 1) * 10 + holderAfter(net, 1), 1);
        net.rules(0, false, 50, 50, 5);
        Check.due("the second at 4", holderAfter(net, 2), 1);
        Check.due("the second at 5", holderAfter(net, 1), -1);
    }

    /** "RULES of a group": those of one group are not another's. */
    private static void rulesOfOneGroup() {
        TalkNet net = new TalkNet();
        net.rules(0, false, 50, 3, 5);
        net.rules(2, false, 50, 5, 5);
        for (int g = 0; g <= 2; g++) {
            net.member(g, 0, 0);
            Check.ask(net, g, 0, false);
        }
        int[][] due = {{2, 0, 0, 0}, {1, -1, 0, 0}, {1, -1, 0, 0}, {1, -1, 0, -1}, {14, -1, 0, -1}, {1, -1, -1, -1}};
        int time = 0;
        for (int[] d : due) {
            time = Check.ticks(net, d[0]);
            for (int g = 0; g <= 2; g++) {
                Check.due("holder of group " + g + " at " + time, net.server(g, 1), d[g + 1]);
            }
        }
        Check.due("time", time, 20);
    }
}
