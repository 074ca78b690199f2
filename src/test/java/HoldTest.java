import java.util.ArrayList;
import java.util.List;

/**
 * A hold goes on as it began, whatever else the server hears: each event here leaves the holder, its rules and what was
 * heard of it and of those that wait as they were; only who waits may change.
 */
public final class HoldTest {
    // What is on its way, in this order.
    private static final int HOLDERS_REQUEST_BELOW = 0;
    private static final int HOLDERS_RELEASE_BELOW = 1;
    private static final int HOLDERS_REQUEST_EQUAL = 2;
    private static final int FIRSTS_REQUEST_BELOW = 3;
    private static final int FIRSTS_RELEASE_BELOW = 4;
    private static final int FIRSTS_REQUEST_EQUAL = 5;
    private static final int SECONDS_RELEASE = 6;
    private static final int THIRDS_REQUEST = 7;
    private static final int THIRDS_RELEASE = 8;
    private static final int UNIT_PASSED = 9;
    private static final int NEXT = 10;

    private static final int NOBODY = -1;

    private interface Event {
        void on(TalkNet net);
    }

    public static void main(String[] args) {
        whatIsOnItsWay();
        ofTheHolder();
        ofThoseThatWait();
        ofThoseThatDoNot();
        ofTheGroup();
        aUnitThatIsPassed();
        Check.end();
    }

    /**
     * Member 0 holds from tick 2 on by its second request, 1 waits by its second, 2 and 4 by their first; a unit was
     * passed at 3, and it is 3. Member 5 has not asked, nor is member 3's REQUEST heard. The group's rules are others
     * by now.
     */
    private static TalkNet held(int longest, int idle, int grace) {
        TalkNet net = Check.with(0, 6, 3);
        net.rules(0, true, longest, idle, grace);
        Check.ticks(net, 2);
        net.press(0, 0, false);
        net.release(0, 0);
        net.press(0, 0, false);
        net.twice(HOLDERS_REQUEST_EQUAL);
        net.carry(3);
        net.carry(3);
        dropAt(net, 3, 5);
        net.press(0, 1, false);
        net.release(0, 1);
        net.press(0, 1, false);
        net.twice(FIRSTS_REQUEST_EQUAL);
        dropAt(net, 6, 1);
        waits(net, 2, 6);
        waits(net, 4, 6);
        net.release(0, 2);
        net.press(0, 3, false);
        net.release(0, 3);
        net.tick();
        net.unit(0, 0, 1);
        net.twice(UNIT_PASSED);
        dropAt(net, NEXT, 5);
        net.rules(0, false, 4, 3, 1);
        return net;
    }

    private static void dropAt(TalkNet net, int k, int count) {
        for (int i = 0; i < count; i++) {
            net.drop(k);
        }
    }

    /** The member asks, the REQUEST is carried, and the answer that comes behind it is dropped. */
    private static void waits(TalkNet net, int member, int k) {
        net.press(0, member, false);
        net.carry(k);
        dropAt(net, k, 1);
    }

    private static void whatIsOnItsWay() {
        TalkNet net = held(100, 50, 20);
        Check.due("row", Check.row(net), "1/0/0(1,0,0) 2/0/0(1,0,0) 1/0/0(2,0,0) 1/0/1(1,0,0) 2/0/1(1,0,0) 1/0/1(2,0,0)"
                + " 2/0/2(1,0,0) 1/0/3(1,0,0) 2/0/3(1,0,0) 11/0/0(1,0,1)");
        Check.due("server", Check.server(net, 0), "1 0 3 0 2 3");
        Check.due("waiting", Check.waiting(net, 0), "1 2 4");
        Check.due("relay", Check.relay(net, 0), "1 0 1 0");
    }

    /** The event changes nothing of the hold; one waits no more behind it, or one waits at the end of the row. */
    private static void holdsOn(String what, Event event, int gone, int added) {
        endsByLongest(what, event, gone, added);
        endsByIdle(what, event, gone, added);
        endsByGrace(what, event, gone, added);
        isPreempted(what, event, gone, added);
    }

    private static void eventChanges(String what, TalkNet net, Event event, int gone, int added) {
        net.tick();
        List<Integer> due = new ArrayList<>();
        for (int place = 0; place < net.server(0, 2); place++) {
            due.add(net.waiting(0, place));
        }
        due.removeIf(member -> member == gone);
        if (added != NOBODY) {
            due.add(added);
        }
        String hold = hold(net);
        event.on(net);
        Check.due(what + ": the hold", hold(net), hold);
        Check.due(what + ": who waits", "[" + Check.waiting(net, 0).replace(" ", ", ") + "]", due.toString());
    }

    private static String hold(TalkNet net) {
        return net.server(0, 0) + " " + net.server(0, 1) + " " + net.server(0, 3) + " " + net.server(0, 4) + " "
                + net.server(0, 5);
    }

    /** It is 4: the hold goes on until the tick before this one, and what held the floor is known no more behind it. */
    private static void endsAt(String what, int end, TalkNet net) {
        Check.due(what + ": the time", Check.ticks(net, end - 1 - 4), end - 1);
        Check.due(what + ": it holds still", net.server(0, 1), 0);
        net.tick();
        Check.due(what + ": it has ended", net.server(0, 1) == 0, false);
        int messages = net.messages();
        net.twice(HOLDERS_REQUEST_EQUAL);
        Check.due(what + ": its REQUEST has no answer any more", net.messages(), messages);
    }

    private static void endsByLongest(String what, Event event, int gone, int added) {
        TalkNet net = held(7, 50, 20);
        eventChanges(what + ", longest", net, event, gone, added);
        endsAt(what + ", longest", 9, net);
    }

    private static void endsByIdle(String what, Event event, int gone, int added) {
        TalkNet net = held(100, 6, 20);
        eventChanges(what + ", idle", net, event, gone, added);
        endsAt(what + ", idle", 9, net);
    }

    /** As held, but member 0 was revoked at 3 for an emergency of member 5, who has left and come again since. */
    private static TalkNet heldAndRevoked(int grace) {
        TalkNet net = held(100, 50, grace);
        net.press(0, 5, true);
        net.carry(NEXT);
        Check.due("REVOKED", Check.message(net, NEXT + 1), "6/0/0(1,0,0)");
        dropAt(net, NEXT, 2);
        net.leave(0, 5);
        net.member(0, 5, 3);
        return net;
    }

    private static void endsByGrace(String what, Event event, int gone, int added) {
        TalkNet net = heldAndRevoked(6);
        eventChanges(what + ", grace", net, event, gone, added);
        endsAt(what + ", grace", 9, net);
    }

    /** Of all that comes, a unit that is passed alone lets the hold go on, if it were idle. */
    private static void aUnitThatIsPassed() {
        TalkNet[] nets = {held(7, 50, 20), held(100, 6, 20), heldAndRevoked(6)};
        int[] ends = {9, 10, 9};
        for (int i = 0; i < nets.length; i++) {
            nets[i].tick();
            nets[i].unit(0, 0, 2);
            nets[i].carry(NEXT);
            Check.due("the hold", hold(nets[i]), "1 0 " + (i == 2 ? 1 : 0) + " 2 4");
            endsAt("a unit that is passed, " + i, ends[i], nets[i]);
        }
    }

    /** Behind the event, one of priority 2 waits last and does not preempt; one of priority 4 waits first and does. */
    private static void isPreempted(String what, Event event, int gone, int added) {
        TalkNet net = held(100, 50, 20);
        eventChanges(what, net, event, gone, added);
        Check.due("a tick that sends TALKER", net.tick(), 5);
        net.leave(0, 4);
        net.member(0, 4, 2);
        net.member(0, 5, 4);
        net.press(0, 4, false);
        net.carry(net.messages() - 1);
        int count = net.server(0, 2);
        Check.due(what + ": priority 2 waits last", net.waiting(0, count - 1), 4);
        Check.due(what + ": priority 2 does not preempt", net.server(0, 3), 0);
        net.leave(0, 4);
        net.press(0, 5, false);
        net.carry(net.messages() - 1);
        Check.due(what + ": priority 4 waits first", net.waiting(0, 0), 5);
        Check.due(what + ": priority 4 preempts", net.server(0, 3), 1);
    }

    private static void ofTheHolder() {
        holdsOn("nothing", net -> { }, NOBODY, NOBODY);
        holdsOn("the holder's REQUEST below", net -> net.twice(HOLDERS_REQUEST_BELOW), NOBODY, NOBODY);
        holdsOn("the holder's RELEASE below", net -> net.twice(HOLDERS_RELEASE_BELOW), NOBODY, NOBODY);
        holdsOn("the holder's equal REQUEST", net -> net.twice(HOLDERS_REQUEST_EQUAL), NOBODY, NOBODY);
        holdsOn("a unit that is but sent", net -> net.unit(0, 0, 2), NOBODY, NOBODY);
        holdsOn("a unit that is stopped", net -> net.twice(UNIT_PASSED), NOBODY, NOBODY);
        holdsOn("the holder's new priority", net -> net.member(0, 0, 7), NOBODY, NOBODY);
    }

    private static void ofThoseThatWait() {
        holdsOn("REQUEST below", net -> net.twice(FIRSTS_REQUEST_BELOW), NOBODY, NOBODY);
        holdsOn("RELEASE below", net -> net.twice(FIRSTS_RELEASE_BELOW), NOBODY, NOBODY);
        holdsOn("an equal REQUEST", net -> net.twice(FIRSTS_REQUEST_EQUAL), NOBODY, NOBODY);
        holdsOn("a new priority", net -> net.member(0, 1, 0), NOBODY, NOBODY);
        holdsOn("an equal RELEASE", net -> net.twice(SECONDS_RELEASE), 2, NOBODY);
        holdsOn("an equal RELEASE again", net -> {
            net.twice(SECONDS_RELEASE);
            net.twice(SECONDS_RELEASE);
        }, 2, NOBODY);
        holdsOn("one that waits leaves", net -> net.leave(0, 1), 1, NOBODY);
    }

    private static void ofThoseThatDoNot() {
        holdsOn("a greater REQUEST", net -> net.twice(THIRDS_REQUEST), NOBODY, 3);
        holdsOn("a greater RELEASE", net -> net.twice(THIRDS_RELEASE), NOBODY, NOBODY);
        holdsOn("a greater REQUEST and its RELEASE", net -> {
            net.twice(THIRDS_REQUEST);
            net.twice(THIRDS_RELEASE);
        }, NOBODY, NOBODY);
        holdsOn("a REQUEST that is denied, twice", net -> {
            net.press(0, 5, false);
            net.carry(net.messages() - 1);
            net.twice(THIRDS_REQUEST);
            Check.due("DENIED", net.message(net.messages() - 1, 0), 5);
            net.twice(THIRDS_REQUEST);
            // The one that took the last place gives it back.
            net.leave(0, 5);
            net.member(0, 5, 3);
        }, NOBODY, NOBODY);
        holdsOn("one that does not wait leaves", net -> net.leave(0, 3), NOBODY, NOBODY);
    }

    private static void ofTheGroup() {
        holdsOn("rules", net -> net.rules(0, false, 1, 1, 0), NOBODY, NOBODY);
        holdsOn("another group's", net -> {
            net.rules(1, false, 1, 1, 0);
            net.member(1, 0, 0);
            net.press(1, 0, true);
            net.carry(net.messages() - 1);
            net.leave(1, 0);
        }, NOBODY, NOBODY);
    }
}
