/** Promises 9 to 14 and 20: the row of messages, its parts, what is carried, twice, dropped and lost. */
public final class NetTest {
    public static void main(String[] args) {
        partsOfEachKind();
        partsOfGates();
        inTheOrderInWhichTheyWereSent();
        carriesInAnyOrder();
        answersComeBehindAllOthers();
        carriesTwice();
        drops();
        runsNoneAndOne();
        runsUntilNoneIsLeft();
        runsThoseThatItMakes();
        runsTheMost();
        sixtyAreOnTheirWay();
        pressWhenSixtyAre();
        againWhenSixtyAre();
        releaseWhenSixtyAre();
        unitWhenSixtyAre();
        leaveWhenSixtyAre();
        tickWhenSixtyAre();
        talkersWhenSixtyAre();
        carriedOneMakesRoom();
        grantNeedsRoomForEach();
        twiceMakesNoRoom();
        droppedOneMakesRoom();
        fullRowKeepsItsOrder();
        Check.end();
    }

    /** "a KIND, and numbers a, b, c (0 if nothing is said)" */
    private static void partsOfEachKind() {
        TalkNet net = Check.with(2, 6, 0);
        net.rules(2, true, 1, 50, 20);
        net.press(2, 1, true);
        Check.due("REQUEST, an emergency", Check.row(net), "1/2/1(1,1,0)");
        net.carry(0);
        Check.due("GRANTED, GATE, TALKER", Check.row(net), "3/2/1(1,1,0) 10/2/1(1,1,0) 8/2/0(1,1,0)"
                + " 8/2/2(1,1,0) 8/2/3(1,1,0) 8/2/4(1,1,0) 8/2/5(1,1,0)");
        Check.carryAll(net);
        net.unit(2, 1, 99);
        Check.due("UNIT", Check.row(net), "11/2/1(1,0,99)");
        net.carry(0);
        Check.due("PASSED", Check.row(net),
                "9/2/0(1,0,99) 9/2/2(1,0,99) 9/2/3(1,0,99) 9/2/4(1,0,99) 9/2/5(1,0,99)");
        Check.carryAll(net);
        net.press(2, 0, false);
        Check.due("REQUEST, no emergency", Check.row(net), "1/2/0(1,0,0)");
        net.carry(0);
        Check.due("QUEUED", Check.row(net), "4/2/0(1,0,0)");
        Check.carryAll(net);
        for (int m = 2; m < 5; m++) {
            Check.ask(net, 2, m, false);
        }
        net.press(2, 5, false);
        net.carry(0);
        Check.due("DENIED", Check.row(net), "5/2/5(1,0,0)");
        Check.carryAll(net);
        net.release(2, 4);
        Check.due("RELEASE", Check.row(net), "2/2/4(1,0,0)");
        Check.carryAll(net);
        net.member(2, 4, 7);
        net.press(2, 4, true);
        net.carry(0);
        Check.due("QUEUED, REVOKED", Check.row(net), "4/2/4(2,0,0) 6/2/1(1,0,0)");
        Check.carryAll(net);
        net.tick();
        Check.due("ENDED", Check.message(net, 0), "7/2/1(1,0,0)");
    }

    /** "10 GATE: a the grant, b who has it (-1: nobody); the member is b, or 0" */
    private static void partsOfGates() {
        for (int m = 0; m <= 5; m++) {
            TalkNet net = new TalkNet();
            net.member(1, m, 0);
            net.press(1, m, false);
            net.carry(0);
            Check.due("the gate of " + m, Check.message(net, 1), "10/1/" + m + "(1," + m + ",0)");
            Check.dropAll(net);
            net.leave(1, m);
            Check.due("the gate of nobody", Check.row(net), "10/1/0(1,-1,0)");
        }
    }

    /** "MESSAGES are on their way in a row, in the order in which they were sent": of all groups, in one row. */
    private static void inTheOrderInWhichTheyWereSent() {
        TalkNet net = new TalkNet();
        for (int g : new int[] {2, 0, 1}) {
            net.member(g, 3, 0);
            net.member(g, 1, 0);
        }
        net.press(2, 3, false);
        net.press(0, 1, true);
        net.press(1, 3, false);
        net.press(0, 3, false);
        net.release(2, 3);
        net.again(1, 3);
        Check.due("by members", Check.row(net),
                "1/2/3(1,0,0) 1/0/1(1,1,0) 1/1/3(1,0,0) 1/0/3(1,0,0) 2/2/3(1,0,0) 1/1/3(1,0,0)");
        net.carry(2);
        net.carry(0);
        Check.due("by servers", Check.row(net), "1/0/1(1,1,0) 1/0/3(1,0,0) 2/2/3(1,0,0) 1/1/3(1,0,0)"
                + " 3/1/3(1,1,0) 10/1/3(1,3,0) 8/1/1(1,3,0) 3/2/3(1,1,0) 10/2/3(1,3,0) 8/2/1(1,3,0)");
    }

    /** Promise 11: the first, one in the middle, the last. */
    private static void carriesInAnyOrder() {
        TalkNet net = Check.with(0, 3, 0);
        net.press(0, 0, false);
        net.press(0, 1, false);
        net.press(0, 2, false);
        net.carry(1);
        Check.due("the middle one came", Check.server(net, 0), "1 1 0 0 0 -1");
        net.carry(5);
        Check.due("the last one came", net.about(0, 2, 7), 1);
        net.carry(0);
        Check.due("the first one came", Check.waiting(net, 0), "0");
        Check.due("they went from the row", Check.row(net),
                "1/0/2(1,0,0) 3/0/1(1,1,0) 10/0/1(1,1,0) 8/0/0(1,1,0) 4/0/0(1,0,0)");
    }

    /** Promise 11: "(what that sends comes behind all others)". */
    private static void answersComeBehindAllOthers() {
        TalkNet net = Check.with(0, 3, 0);
        net.press(0, 0, false);
        net.press(0, 1, false);
        net.press(0, 2, false);
        net.carry(1);
        Check.due("of one in the middle", Check.row(net),
                "1/0/0(1,0,0) 1/0/2(1,0,0) 3/0/1(1,1,0) 10/0/1(1,1,0) 8/0/0(1,1,0) 8/0/2(1,1,0)");
        net.carry(0);
        Check.due("of the first", Check.row(net),
                "1/0/2(1,0,0) 3/0/1(1,1,0) 10/0/1(1,1,0) 8/0/0(1,1,0) 8/0/2(1,1,0) 4/0/0(1,0,0)");
    }

    /** Promise 12: "carried TWICE (it comes, and stays in the row)". */
    private static void carriesTwice() {
        TalkNet net = Check.with(0, 2, 0);
        net.press(0, 0, false);
        net.press(0, 1, false);
        net.twice(0);
        Check.due("it stays where it was", Check.row(net),
                "1/0/0(1,0,0) 1/0/1(1,0,0) 3/0/0(1,1,0) 10/0/0(1,0,0) 8/0/1(1,0,0)");
        net.twice(0);
        Check.due("it comes again", Check.message(net, 5), "3/0/0(1,1,0)");
        Check.due("one grant alone", net.server(0, 0), 1);
        net.twice(5);
        Check.due("the last one came", net.about(0, 0, 2), 3);
        Check.due("and stays", net.messages(), 6);
        net.carry(0);
        Check.due("carried behind that, it goes", Check.message(net, 0), "1/0/1(1,0,0)");
        Check.due("and comes once more", Check.message(net, 5), "3/0/0(1,1,0)");
    }

    /** Promise 13: the first, one in the middle, the last; nothing comes of it, and nothing is lost. */
    private static void drops() {
        TalkNet net = Check.with(0, 4, 0);
        for (int m = 0; m < 4; m++) {
            net.press(0, m, false);
        }
        net.drop(1);
        Check.due("one in the middle", Check.row(net), "1/0/0(1,0,0) 1/0/2(1,0,0) 1/0/3(1,0,0)");
        net.drop(2);
        Check.due("the last", Check.row(net), "1/0/0(1,0,0) 1/0/2(1,0,0)");
        net.drop(0);
        Check.due("the first", Check.row(net), "1/0/2(1,0,0)");
        net.drop(0);
        Check.due("the only one", net.messages(), 0);
        Check.due("nothing came", Check.server(net, 0), "0 -1 0 0 -1 -1");
        Check.due("dropped is not lost", net.lost(), 0);
    }

    /** Promise 14: "or n were", with n 0 and 1. */
    private static void runsNoneAndOne() {
        TalkNet net = Check.with(0, 3, 0);
        Check.due("run 0 of none", net.run(0), 0);
        Check.due("run 1 of none", net.run(1), 0);
        net.press(0, 0, false);
        net.press(0, 1, false);
        Check.due("run 0", net.run(0), 0);
        Check.due("nothing is carried", Check.row(net), "1/0/0(1,0,0) 1/0/1(1,0,0)");
        Check.due("run 1", net.run(1), 1);
        Check.due("the first is carried", Check.row(net),
                "1/0/1(1,0,0) 3/0/0(1,1,0) 10/0/0(1,0,0) 8/0/1(1,0,0) 8/0/2(1,0,0)");
    }

    /** Promise 14: "until none is left, or n were: how many", with n below, equal to and above what is left. */
    private static void runsUntilNoneIsLeft() {
        for (int n : new int[] {4, 5, 6, 199, 200}) {
            TalkNet net = Check.with(0, 3, 0);
            net.press(0, 0, false);
            int due = n < 5 ? n : 5;
            Check.due("run " + n + " of 5", net.run(n), due);
            Check.due("what is left of 5 behind run " + n, net.messages(), 5 - due);
            Check.due("run 200 of the rest", net.run(200), 5 - due);
            Check.due("none is left", net.messages(), 0);
        }
    }

    /** Promise 14: "(those that this makes, too)". */
    private static void runsThoseThatItMakes() {
        TalkNet net = Check.with(0, 3, 0);
        Check.ask(net, 0, 0, false);
        net.unit(0, 0, 1);
        Check.due("a UNIT, and two PASSED", net.run(200), 3);
        Check.due("they came", net.about(0, 1, 9) + net.about(0, 2, 9), 2);
    }

    private static TalkNet talking() {
        TalkNet net = Check.with(0, 6, 0);
        Check.ask(net, 0, 0, false);
        return net;
    }

    /** Members 0 .. 5 are there, 0 holds the floor, and so many UNITs of it are on their way. */
    private static TalkNet units(int count) {
        TalkNet net = talking();
        for (int i = 0; i < count; i++) {
            net.unit(0, 0, i);
        }
        return net;
    }

    private static void runsTheMost() {
        // 5, 5 and 3 PASSED fill the row; from then on each unit leaves room for one.
        TalkNet net = units(50);
        Check.due("run 109 of 110", net.run(109), 109);
        Check.due("the last one", Check.row(net), "9/0/1(1,49,49)");
        Check.due("run 200 of 1", net.run(200), 1);
        Check.due("run 119 of 120", units(60).run(119), 119);
        Check.due("run 120 of 120", units(60).run(120), 120);
        Check.due("run 121 of 120", units(60).run(121), 120);
        Check.due("run 200 of 120", units(60).run(200), 120);
    }

    /** "there are at most 60: one that would be the next is lost" */
    private static void sixtyAreOnTheirWay() {
        TalkNet net = units(59);
        Check.due("59 messages", net.messages(), 59);
        Check.due("none is lost", net.lost(), 0);
        net.unit(0, 0, 59);
        Check.due("60 messages", net.messages(), 60);
        Check.due("none is lost", net.lost(), 0);
        Check.due("the 60th", Check.message(net, 59), "11/0/0(1,59,59)");
        net.unit(0, 0, 60);
        Check.due("still 60", net.messages(), 60);
        Check.due("the 61st is lost", net.lost(), 1);
        Check.due("the first is as it was", Check.message(net, 0), "11/0/0(1,0,0)");
        Check.due("the last is as it was", Check.message(net, 59), "11/0/0(1,59,59)");
        net.unit(0, 0, 61);
        Check.due("so is the 62nd", net.lost(), 2);
    }

    private static void pressWhenSixtyAre() {
        TalkNet net = units(60);
        Check.due("press", net.press(0, 1, true), 1);
        Check.due("it asked", Check.about(net, 0, 1, 2, 3), "1 1");
        Check.due("REQUEST is lost", net.lost(), 1);
        net.drop(0);
        net.again(0, 1);
        Check.due("again, when there is room", Check.message(net, 59), "1/0/1(1,1,0)");
        Check.due("lost", net.lost(), 1);
    }

    private static void againWhenSixtyAre() {
        TalkNet net = units(59);
        net.press(0, 1, true);
        net.again(0, 1);
        Check.due("lost", net.lost(), 1);
        Check.due("still asked", Check.about(net, 0, 1, 2, 3), "1 1");
        Check.due("messages", net.messages(), 60);
    }

    private static void releaseWhenSixtyAre() {
        TalkNet net = units(60);
        net.release(0, 0);
        Check.due("it has none", net.about(0, 0, 2), 0);
        Check.due("RELEASE is lost", net.lost(), 1);
        Check.carryAll(net);
        Check.due("so the server did not hear it", net.server(0, 1), 0);
    }

    private static void unitWhenSixtyAre() {
        TalkNet net = units(60);
        Check.due("unit", net.unit(0, 0, 7), 60);
        Check.due("it is sent all the same", net.about(0, 0, 6), 61);
        Check.dropAll(net);
        Check.due("the next", net.unit(0, 0, 7), 61);
        Check.due("row", Check.row(net), "11/0/0(1,61,7)");
    }

    private static void leaveWhenSixtyAre() {
        TalkNet net = units(60);
        net.leave(0, 0);
        Check.due("GATE is lost", net.lost(), 1);
        Check.due("the floor is free", Check.server(net, 0), "1 -1 0 0 -1 -1");
    }

    private static void tickWhenSixtyAre() {
        TalkNet net = Check.with(0, 2, 0);
        net.rules(0, false, 2, 50, 5);
        Check.ask(net, 0, 0, false);
        Check.ask(net, 0, 1, false);
        for (int i = 0; i < 59; i++) {
            net.unit(0, 0, i);
        }
        Check.ticks(net, 2);
        Check.due("ENDED had room", Check.message(net, 59), "7/0/0(1,0,0)");
        Check.due("GRANTED, GATE and TALKER had none", net.lost(), 3);
        Check.due("the next holds all the same", Check.server(net, 0), "2 1 0 0 2 -1");
        Check.ticks(net, 2);
        Check.due("ENDED and GATE are lost", net.lost(), 5);
        Check.due("nobody holds", Check.server(net, 0), "2 -1 0 0 -1 -1");
    }

    private static void talkersWhenSixtyAre() {
        TalkNet net = units(57);
        Check.ticks(net, 5);
        Check.due("three TALKER had room", Check.message(net, 59), "8/0/3(1,0,0)");
        Check.due("two had none", net.lost(), 2);
        Check.ticks(net, 5);
        Check.due("five had none", net.lost(), 7);
    }

    /** "CARRIED (it goes from the row, and comes to where it should)": in this order. */
    private static void carriedOneMakesRoom() {
        TalkNet net = units(60);
        net.carry(0);
        Check.due("messages", net.messages(), 60);
        Check.due("the first PASSED had room", Check.message(net, 59), "9/0/1(1,0,0)");
        Check.due("four had none", net.lost(), 4);
        net.drop(0);
        net.drop(0);
        net.carry(0);
        Check.due("three had room", Check.message(net, 59), "9/0/3(1,3,3)");
        Check.due("lost", net.lost(), 6);
        Check.due("all are passed", Check.relay(net, 0), "1 0 2 0");
    }

    /** A REQUEST in a row of 57, 58, 59 and 60: GRANTED, GATE and TALKER find room for as many as there is. */
    private static void grantNeedsRoomForEach() {
        String[] last = {"8/1/1(1,0,0)", "8/1/1(1,0,0)", "10/1/0(1,0,0)", "3/1/0(1,1,0)"};
        int[] count = {59, 60, 60, 60};
        int[] lost = {0, 0, 1, 2};
        for (int i = 0; i < 4; i++) {
            TalkNet net = units(56 + i);
            net.member(1, 0, 0);
            net.member(1, 1, 0);
            net.press(1, 0, false);
            int at = net.messages() - 1;
            Check.due("messages before", at, 56 + i);
            net.carry(at);
            Check.due("messages", net.messages(), count[i]);
            Check.due("the last", Check.message(net, count[i] - 1), last[i]);
            Check.due("lost", net.lost(), lost[i]);
            Check.due("granted all the same", Check.server(net, 1), "1 0 0 0 0 -1");
        }
    }

    private static void twiceMakesNoRoom() {
        TalkNet net = units(60);
        net.twice(0);
        Check.due("messages", net.messages(), 60);
        Check.due("lost", net.lost(), 5);
        Check.due("it came", Check.relay(net, 0), "1 0 1 0");
        net.drop(59);
        net.twice(1);
        Check.due("one had room", Check.message(net, 59), "9/0/1(1,1,1)");
        Check.due("lost", net.lost(), 9);
    }

    private static void droppedOneMakesRoom() {
        TalkNet net = units(60);
        net.drop(59);
        Check.due("messages", net.messages(), 59);
        net.unit(0, 0, 8);
        Check.due("messages", net.messages(), 60);
        Check.due("the next had room", Check.message(net, 59), "11/0/0(1,60,8)");
        Check.due("none is lost", net.lost(), 0);
    }

    private static void fullRowKeepsItsOrder() {
        TalkNet net = units(60);
        for (int k : new int[] {59, 30, 0}) {
            net.drop(k);
        }
        Check.due("messages", net.messages(), 57);
        for (int k = 0; k < 57; k++) {
            Check.due("unit at " + k, net.message(k, 4), k < 29 ? k + 1 : k + 2);
        }
    }
}
