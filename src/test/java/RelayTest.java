/** Promise 18: the gate, and which units the relay passes. */
public final class RelayTest {
    public static void main(String[] args) {
        noGateYet();
        passesToAllOthers();
        passesOnce();
        passesAllNumbers();
        gateOfNobody();
        gateTurnedRound();
        sameGateAgain();
        newGrantPassesAnew();
        olderGrantIsStopped();
        otherMemberIsStopped();
        Check.end();
    }

    /** The floor is granted, the member knows it, and the GATE is the only message on its way. */
    private static TalkNet granted() {
        TalkNet net = Check.with(0, 4, 0);
        net.press(0, 1, false);
        net.carry(0);
        net.carry(0);
        while (net.messages() > 1) {
            net.drop(1);
        }
        return net;
    }

    private static void noGateYet() {
        TalkNet net = granted();
        net.unit(0, 1, 5);
        net.carry(1);
        Check.due("stopped", Check.relay(net, 0), "0 -1 0 1");
        Check.due("nothing is passed", Check.row(net), "10/0/1(1,1,0)");
        Check.due("the server knows nothing", net.server(0, 5), -1);
        net.carry(0);
        Check.due("the gate", Check.relay(net, 0), "1 1 0 1");
    }

    private static void passesToAllOthers() {
        TalkNet net = granted();
        net.carry(0);
        net.leave(0, 2);
        net.member(0, 5, 0);
        Check.ticks(net, 3);
        net.unit(0, 1, -5);
        net.carry(0);
        Check.due("by number, those that are there", Check.row(net), "9/0/0(1,0,-5) 9/0/3(1,0,-5) 9/0/5(1,0,-5)");
        Check.due("relay", Check.relay(net, 0), "1 1 1 0");
        Check.due("the server knows that tick", net.server(0, 5), 3);
    }

    private static void passesOnce() {
        TalkNet net = granted();
        net.carry(0);
        net.unit(0, 1, 4);
        net.twice(0);
        net.tick();
        net.carry(0);
        Check.due("relay", Check.relay(net, 0), "1 1 1 1");
        Check.due("messages", net.messages(), 3);
        Check.due("the server knows the first alone", net.server(0, 5), 0);
    }

    private static void passesAllNumbers() {
        TalkNet net = granted();
        net.carry(0);
        for (int i = 0; i < 64; i++) {
            net.unit(0, 1, i);
            net.twice(0);
            net.carry(0);
            Check.dropAll(net);
        }
        Check.due("each once", Check.relay(net, 0), "1 1 64 64");
    }

    private static void gateOfNobody() {
        TalkNet net = granted();
        net.carry(0);
        net.unit(0, 1, 4);
        net.release(0, 1);
        net.carry(1);
        net.carry(1);
        Check.due("the gate", Check.relay(net, 0), "1 -1 0 0");
        net.carry(0);
        Check.due("stopped", Check.relay(net, 0), "1 -1 0 1");
        Check.due("messages", net.messages(), 0);
    }

    private static void gateTurnedRound() {
        TalkNet net = granted();
        net.release(0, 1);
        net.carry(1);
        net.carry(1);
        Check.due("nobody comes first", Check.relay(net, 0), "1 -1 0 0");
        net.carry(0);
        Check.due("then the older gate of the same grant", Check.relay(net, 0), "1 -1 0 0");
    }

    private static void sameGateAgain() {
        TalkNet net = granted();
        net.twice(0);
        net.unit(0, 1, 4);
        net.twice(1);
        net.carry(0);
        net.carry(0);
        Check.due("a repeated gate does not pass units anew", Check.relay(net, 0), "1 1 1 1");
    }

    private static void newGrantPassesAnew() {
        TalkNet net = Check.with(0, 2, 0);
        Check.ask(net, 0, 0, false);
        net.unit(0, 0, 1);
        Check.carryAll(net);
        net.release(0, 0);
        Check.carryAll(net);
        Check.ask(net, 0, 0, false);
        net.unit(0, 0, 2);
        Check.carryAll(net);
        Check.due("relay", Check.relay(net, 0), "2 0 2 0");
    }

    private static void olderGrantIsStopped() {
        TalkNet net = Check.with(0, 2, 0);
        Check.ask(net, 0, 0, false);
        net.unit(0, 0, 1);
        net.release(0, 0);
        net.press(0, 0, false);
        net.carry(1);
        net.carry(1);
        Check.due("row", Check.row(net),
                "11/0/0(1,0,1) 10/0/0(1,-1,0) 3/0/0(2,2,0) 10/0/0(2,0,0) 8/0/1(2,0,0)");
        net.carry(3);
        Check.due("the gate", Check.relay(net, 0), "2 0 0 0");
        net.carry(1);
        Check.due("an older gate", Check.relay(net, 0), "2 0 0 0");
        net.carry(0);
        Check.due("a unit of an older grant", Check.relay(net, 0), "2 0 0 1");
        net.carry(0);
        net.unit(0, 0, 9);
        net.carry(1);
        Check.due("its number was not passed of this grant", Check.relay(net, 0), "2 0 1 1");
    }

    private static void otherMemberIsStopped() {
        TalkNet net = Check.with(0, 2, 0);
        Check.ask(net, 0, 0, false);
        net.press(0, 1, false);
        net.run(200);
        net.release(0, 0);
        net.carry(0);
        net.carry(0);
        net.unit(0, 1, 3);
        net.carry(net.messages() - 1);
        Check.due("a unit of a newer grant than the gate's", Check.relay(net, 0), "1 0 0 1");
        Check.due("nothing for the server", net.server(0, 5), -1);
    }
}
