/** Promises 9 to 14 and 20: the row of messages, and what is lost of it. */
public final class NetTest {
    public static void main(String[] args) {
        partsOfMessages();
        carriesInAnyOrder();
        carriesTwice();
        drops();
        runs();
        sixtyAreOnTheirWay();
        carriedOneMakesRoom();
        twiceMakesNoRoom();
        fullRowKeepsItsOrder();
        Check.end();
    }

    private static void partsOfMessages() {
        TalkNet net = Check.with(2, 2, 0);
        net.press(2, 1, true);
        Check.due("REQUEST", Check.row(net), "1/2/1(1,1,0)");
        net.carry(0);
        Check.due("GRANTED, GATE, TALKER", Check.row(net), "3/2/1(1,1,0) 10/2/1(1,1,0) 8/2/0(1,1,0)");
        Check.carryAll(net);
        net.unit(2, 1, 99);
        Check.due("UNIT", Check.row(net), "11/2/1(1,0,99)");
        net.carry(0);
        Check.due("PASSED", Check.row(net), "9/2/0(1,0,99)");
        net.release(2, 1);
        net.carry(1);
        Check.due("GATE of nobody", Check.row(net), "9/2/0(1,0,99) 10/2/0(1,-1,0)");
    }

    private static void carriesInAnyOrder() {
        TalkNet net = Check.with(0, 3, 0);
        net.press(0, 0, false);
        net.press(0, 1, false);
        net.press(0, 2, false);
        net.carry(1);
        Check.due("the middle one goes, answers come behind", Check.row(net),
                "1/0/0(1,0,0) 1/0/2(1,0,0) 3/0/1(1,1,0) 10/0/1(1,1,0) 8/0/0(1,1,0) 8/0/2(1,1,0)");
        net.carry(5);
        Check.due("the last one goes", net.messages(), 5);
        Check.due("it came", net.about(0, 2, 7), 1);
    }

    private static void carriesTwice() {
        TalkNet net = Check.with(0, 2, 0);
        net.press(0, 0, false);
        net.press(0, 1, false);
        net.twice(0);
        Check.due("it stays where it was", Check.row(net),
                "1/0/0(1,0,0) 1/0/1(1,0,0) 3/0/0(1,1,0) 10/0/0(1,0,0) 8/0/1(1,0,0)");
        net.twice(0);
        Check.due("it comes again", Check.message(net, 5), "3/0/0(1,1,0)");
        Check.due("one grant alone", net.server(0, 0), 1);
        Check.due("messages", net.messages(), 6);
    }

    private static void drops() {
        TalkNet net = Check.with(0, 3, 0);
        net.press(0, 0, false);
        net.press(0, 1, false);
        net.press(0, 2, false);
        net.drop(1);
        Check.due("row", Check.row(net), "1/0/0(1,0,0) 1/0/2(1,0,0)");
        net.drop(1);
        net.drop(0);
        Check.due("messages", net.messages(), 0);
        Check.due("nothing came", Check.server(net, 0), "0 -1 0 0 -1 -1");
        Check.due("dropped is not lost", net.lost(), 0);
    }

    private static void runs() {
        TalkNet net = Check.with(0, 3, 0);
        net.press(0, 0, false);
        Check.due("run 0", net.run(0), 0);
        Check.due("messages", net.messages(), 1);
        Check.due("run 2", net.run(2), 2);
        Check.due("row", Check.row(net), "10/0/0(1,0,0) 8/0/1(1,0,0) 8/0/2(1,0,0)");
        Check.due("run 3", net.run(3), 3);
        Check.due("run of none", net.run(3), 0);
        net.unit(0, 0, 1);
        Check.due("those that it makes, too", net.run(200), 3);
        TalkNet many = talking();
        for (int i = 0; i < 50; i++) {
            many.unit(0, 0, i);
        }
        // 5, 5 and 3 PASSED fill the row; from then on each unit leaves room for one.
        Check.due("run 109 of 110", many.run(109), 109);
        Check.due("the last one", Check.row(many), "9/0/1(1,49,49)");
        Check.due("run 200 of 1", many.run(200), 1);
    }

    private static TalkNet talking() {
        TalkNet net = Check.with(0, 6, 0);
        Check.ask(net, 0, 0, false);
        return net;
    }

    private static void sixtyAreOnTheirWay() {
        TalkNet net = talking();
        for (int i = 0; i < 60; i++) {
            net.unit(0, 0, i);
        }
        Check.due("messages", net.messages(), 60);
        Check.due("lost", net.lost(), 0);
        Check.due("the next one is sent all the same", net.unit(0, 0, 60), 60);
        Check.due("messages", net.messages(), 60);
        Check.due("lost", net.lost(), 1);
        Check.due("the last in the row", Check.message(net, 59), "11/0/0(1,59,59)");
        Check.due("press", net.press(0, 1, false), 1);
        Check.due("its state", net.about(0, 1, 2), 1);
        net.again(0, 1);
        net.release(0, 1);
        Check.due("lost", net.lost(), 4);
        Check.due("its state", net.about(0, 1, 2), 0);
        Check.ticks(net, 5);
        Check.due("TALKER is lost, too", net.lost(), 9);
    }

    private static void carriedOneMakesRoom() {
        TalkNet net = talking();
        for (int i = 0; i < 60; i++) {
            net.unit(0, 0, i);
        }
        net.carry(0);
        Check.due("messages", net.messages(), 60);
        Check.due("the first PASSED had room", Check.message(net, 59), "9/0/1(1,0,0)");
        Check.due("four had none", net.lost(), 4);
        net.drop(0);
        net.drop(0);
        net.carry(0);
        Check.due("three had room", Check.message(net, 59), "9/0/3(1,3,3)");
        Check.due("lost", net.lost(), 6);
    }

    private static void twiceMakesNoRoom() {
        TalkNet net = talking();
        for (int i = 0; i < 60; i++) {
            net.unit(0, 0, i);
        }
        net.twice(0);
        Check.due("messages", net.messages(), 60);
        Check.due("lost", net.lost(), 5);
        Check.due("it came", Check.relay(net, 0), "1 0 1 0");
        // The first unit is stopped now, so the second has room for two PASSED, each other one for one.
        Check.due("run 200", net.run(200), 120);
    }

    private static void fullRowKeepsItsOrder() {
        TalkNet net = talking();
        for (int i = 0; i < 60; i++) {
            net.unit(0, 0, i);
        }
        for (int k : new int[] {59, 30, 0}) {
            net.drop(k);
        }
        Check.due("messages", net.messages(), 57);
        for (int k = 0; k < 57; k++) {
            Check.due("unit at " + k, net.message(k, 4), k < 29 ? k + 1 : k + 2);
        }
    }
}
