/** Promise 18: the gate, and which units the relay passes. */
public final class RelayTest {
    public static void main(String[] args) {
        gateAbove();
        gateAboveOfNobody();
        gateEqualOfNobody();
        gateEqualOfSomebody();
        gateBelow();
        newGrantPassesAnew();
        unitWithoutAMember();
        unitOfTheGrant();
        unitBelowTheGrant();
        unitAboveTheGrant();
        unitsAreNotAbove63();
        unitsOfOneGrantAreApart();
        unitPassedAlready();
        passesToAllOthers();
        passesToNobody();
        serverKnowsThatTick();
        serverKnowsNoStoppedUnit();
        serverHasAnotherHolder();
        serverHasNoHolder();
        countsStay();
        Check.end();
    }

    private static void relay(String what, TalkNet net, String want) {
        Check.due(what, Check.relay(net, 0), want);
    }

    /** The floor is granted, the member knows it, and the GATE is the only message on its way. */
    private static TalkNet granted() {
        TalkNet net = Check.with(0, 4, 0);
        net.press(0, 1, false);
        net.carry(0);
        net.carry(0);
        while (net.messages() > 1) {
            net.drop(1);
        }
        return net;
    }

    /** Members 1, 2 and 3 had grants 1, 2 and 3 one behind the other, and nobody has one now: all GATEs are on their way. */
    private static TalkNet threeGrants() {
        TalkNet net = Check.with(0, 4, 0);
        for (int m = 1; m <= 3; m++) {
            net.press(0, m, false);
        }
        net.run(3);
        for (int m = 1; m <= 3; m++) {
            net.leave(0, m);
        }
        for (int k = net.messages() - 1; k >= 0; k--) {
            if (net.message(k, 0) != 10) {
                net.drop(k);
            }
        }
        Check.due("row", Check.row(net), "10/0/1(1,1,0) 10/0/2(2,2,0) 10/0/3(3,3,0) 10/0/0(3,-1,0)");
        return net;
    }

    /** "a GATE: a grant and a member, or nobody (0, nobody at first). GATE comes: if a is above its grant ... it is that" */
    private static void gateAbove() {
        TalkNet net = threeGrants();
        relay("at first", net, "0 -1 0 0");
        net.twice(0);
        relay("one above", net, "1 1 0 0");
        net.twice(1);
        relay("one above", net, "2 2 0 0");
        TalkNet leap = threeGrants();
        leap.twice(0);
        leap.twice(2);
        relay("two above", leap, "3 3 0 0");
    }

    private static void gateAboveOfNobody() {
        TalkNet net = threeGrants();
        net.twice(3);
        relay("above the first", net, "3 -1 0 0");
        TalkNet later = threeGrants();
        later.twice(1);
        later.twice(3);
        relay("above another", later, "3 -1 0 0");
    }

    /** "or equal and b is nobody, it is that" */
    private static void gateEqualOfNobody() {
        TalkNet net = threeGrants();
        net.twice(2);
        relay("somebody", net, "3 3 0 0");
        net.twice(3);
        relay("nobody", net, "3 -1 0 0");
        net.twice(3);
        relay("nobody again", net, "3 -1 0 0");
    }

    private static void gateEqualOfSomebody() {
        TalkNet net = threeGrants();
        net.twice(3);
        net.twice(2);
        relay("behind nobody", net, "3 -1 0 0");
        TalkNet same = granted();
        same.twice(0);
        same.unit(0, 1, 4);
        same.twice(1);
        same.carry(0);
        same.carry(0);
        relay("a repeated gate does not pass units anew", same, "1 1 1 1");
    }

    private static void gateBelow() {
        TalkNet net = threeGrants();
        net.twice(1);
        net.twice(0);
        relay("of somebody", net, "2 2 0 0");
        net.twice(2);
        net.twice(1);
        relay("of somebody", net, "3 3 0 0");
        TalkNet nobody = Check.with(0, 2, 0);
        Check.ask(nobody, 0, 0, false);
        nobody.release(0, 0);
        nobody.press(0, 0, false);
        nobody.run(2);
        Check.due("row", Check.row(nobody), "10/0/0(1,-1,0) 3/0/0(2,2,0) 10/0/0(2,0,0) 8/0/1(2,0,0)");
        nobody.carry(2);
        nobody.carry(0);
        relay("of nobody", nobody, "2 0 0 0");
    }

    /** "of a new grant no units are passed" */
    private static void newGrantPassesAnew() {
        TalkNet net = Check.with(0, 2, 0);
        for (int grant = 1; grant <= 3; grant++) {
            Check.ask(net, 0, 0, false);
            net.unit(0, 0, 1);
            net.unit(0, 0, 2);
            Check.carryAll(net);
            relay("both units of grant " + grant, net, grant + " 0 " + 2 * grant + " 0");
            net.release(0, 0);
            Check.carryAll(net);
        }
    }

    /** "UNIT comes: if there is a member ...; otherwise (it is not passed) it is STOPPED." */
    private static void unitWithoutAMember() {
        TalkNet net = granted();
        net.unit(0, 1, 5);
        net.twice(1);
        relay("no gate yet", net, "0 -1 0 1");
        Check.due("nothing is passed", Check.row(net), "10/0/1(1,1,0) 11/0/1(1,0,5)");
        net.carry(0);
        net.unit(0, 1, 6);
        net.carry(0);
        relay("there is a gate", net, "1 1 1 1");
        Check.dropAll(net);
        net.unit(0, 1, 7);
        net.release(0, 1);
        net.carry(1);
        net.carry(1);
        net.carry(0);
        relay("nobody any more", net, "1 -1 1 2");
        Check.due("messages", net.messages(), 0);
    }

    /** "a is the grant, it comes from that member" */
    private static void unitOfTheGrant() {
        TalkNet net = granted();
        net.carry(0);
        net.unit(0, 1, 5);
        net.carry(0);
        relay("passed", net, "1 1 1 0");
        Check.due("PASSED", Check.row(net), "9/0/0(1,0,5) 9/0/2(1,0,5) 9/0/3(1,0,5)");
    }

    private static void unitBelowTheGrant() {
        TalkNet net = Check.with(0, 2, 0);
        Check.ask(net, 0, 0, false);
        net.unit(0, 0, 1);
        net.release(0, 0);
        net.press(0, 0, false);
        net.carry(1);
        net.carry(1);
        net.carry(3);
        relay("the gate", net, "2 0 0 0");
        Check.due("the unit", Check.message(net, 0), "11/0/0(1,0,1)");
        net.carry(0);
        relay("of an older grant, by the same member", net, "2 0 0 1");
        Check.comes(net, "3/0/0(2,2,0)");
        net.unit(0, 0, 9);
        net.carry(net.messages() - 1);
        relay("its number was not passed of this grant", net, "2 0 1 1");
        Check.ask(net, 0, 1, false);
        net.unit(0, 0, 3);
        net.leave(0, 0);
        net.carry(1);
        net.carry(1);
        relay("the gate", net, "3 1 1 1");
        net.carry(0);
        relay("of an older grant, by another member", net, "3 1 1 2");
    }

    private static void unitAboveTheGrant() {
        TalkNet net = Check.with(0, 2, 0);
        Check.ask(net, 0, 0, false);
        Check.ask(net, 0, 1, false);
        net.release(0, 0);
        net.carry(0);
        net.carry(0);
        net.unit(0, 1, 3);
        net.twice(net.messages() - 1);
        relay("by another member", net, "1 0 0 1");
        Check.due("nothing for the server", net.server(0, 5), -1);
        net.carry(0);
        relay("the gate", net, "2 1 0 1");
        net.carry(net.messages() - 1);
        relay("passed now", net, "2 1 1 1");

        TalkNet same = Check.with(0, 1, 0);
        Check.ask(same, 0, 0, false);
        same.release(0, 0);
        same.press(0, 0, false);
        same.run(2);
        same.carry(1);
        same.unit(0, 0, 3);
        same.carry(2);
        relay("by the same member", same, "1 0 0 1");
    }

    /** "b is not above 63": the last that a member can send is passed. */
    private static void unitsAreNotAbove63() {
        TalkNet net = Check.with(0, 2, 0);
        Check.ask(net, 0, 0, false);
        for (int i = 0; i < 62; i++) {
            net.unit(0, 0, i);
            net.drop(0);
        }
        net.unit(0, 0, 620);
        net.unit(0, 0, 630);
        net.carry(1);
        relay("63", net, "1 0 1 0");
        Check.due("PASSED", Check.message(net, 1), "9/0/1(1,63,630)");
        net.carry(0);
        relay("62", net, "1 0 2 0");
        Check.due("PASSED", Check.message(net, 1), "9/0/1(1,62,620)");
    }

    /** Each of the 64 numbers is passed, whatever others were: none stands for another. */
    private static void unitsOfOneGrantAreApart() {
        TalkNet net = Check.with(0, 1, 0);
        Check.ask(net, 0, 0, false);
        for (int i = 0; i < 64; i++) {
            net.unit(0, 0, i);
            net.twice(0);
            relay("unit " + i, net, "1 0 " + (i + 1) + " " + i);
            net.carry(0);
        }
        relay("each once", net, "1 0 64 64");
    }

    /** "and was not passed yet" */
    private static void unitPassedAlready() {
        TalkNet net = granted();
        net.carry(0);
        net.unit(0, 1, 4);
        net.unit(0, 1, 5);
        net.twice(1);
        net.twice(1);
        relay("the second twice", net, "1 1 1 1");
        net.twice(0);
        relay("the first", net, "1 1 2 1");
        net.twice(0);
        relay("the first twice", net, "1 1 2 2");
        Check.due("each is passed to three", net.messages(), 8);
    }

    /** "PASSED to all others of the group that are there, by number" */
    private static void passesToAllOthers() {
        TalkNet net = granted();
        net.carry(0);
        net.leave(0, 2);
        net.member(0, 5, 0);
        net.member(1, 4, 0);
        net.unit(0, 1, -5);
        net.carry(0);
        Check.due("row", Check.row(net), "9/0/0(1,0,-5) 9/0/3(1,0,-5) 9/0/5(1,0,-5)");
    }

    private static void passesToNobody() {
        TalkNet net = Check.with(0, 1, 0);
        Check.ask(net, 0, 0, false);
        net.tick();
        net.unit(0, 0, 1);
        net.carry(0);
        relay("it is passed", net, "1 0 1 0");
        Check.due("to nobody", net.messages(), 0);
        Check.due("the server knows", net.server(0, 5), 1);
    }

    /** "if a is the grant of the holder that there is, the server knows that tick" */
    private static void serverKnowsThatTick() {
        TalkNet net = granted();
        net.carry(0);
        Check.due("no unit yet", net.server(0, 5), -1);
        net.unit(0, 1, 5);
        net.unit(0, 1, 6);
        net.carry(0);
        Check.due("the tick in which it was passed", net.server(0, 5), 0);
        Check.ticks(net, 3);
        net.carry(0);
        Check.due("not the one in which it was sent", net.server(0, 5), 3);
    }

    private static void serverKnowsNoStoppedUnit() {
        TalkNet net = granted();
        net.carry(0);
        net.unit(0, 1, 4);
        net.twice(0);
        net.tick();
        net.carry(0);
        relay("stopped", net, "1 1 1 1");
        Check.due("the first alone", net.server(0, 5), 0);
    }

    private static void serverHasAnotherHolder() {
        TalkNet net = Check.with(0, 3, 0);
        Check.ask(net, 0, 0, false);
        Check.ask(net, 0, 1, false);
        net.unit(0, 0, 2);
        net.release(0, 0);
        net.carry(1);
        net.carry(0);
        relay("the relay still passes", net, "1 0 1 0");
        Check.due("the holder has another grant", Check.server(net, 0), "2 1 0 0 0 -1");
    }

    private static void serverHasNoHolder() {
        TalkNet net = Check.with(0, 3, 0);
        Check.ask(net, 0, 0, false);
        net.unit(0, 0, 1);
        net.leave(0, 0);
        net.carry(0);
        relay("the relay still passes", net, "1 0 1 0");
        Check.due("there is no holder", Check.server(net, 0), "1 -1 0 0 -1 -1");
    }

    /** "2 units that were passed, 3 units that were stopped": of all grants, and of one group. */
    private static void countsStay() {
        TalkNet net = Check.with(0, 2, 0);
        net.member(1, 0, 0);
        for (int i = 1; i <= 3; i++) {
            Check.ask(net, 0, 0, false);
            net.unit(0, 0, 1);
            net.twice(0);
            net.twice(0);
            Check.carryAll(net);
            relay("passed and stopped", net, i + " 0 " + i + " " + 2 * i);
            net.release(0, 0);
            Check.carryAll(net);
            relay("nobody", net, i + " -1 " + i + " " + 2 * i);
        }
        Check.due("another group", Check.relay(net, 1), "0 -1 0 0");
    }
}
