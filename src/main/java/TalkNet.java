import java.util.NoSuchElementException;

/**
 * Groups that talk by turns over a net that may lose, repeat and turn round what is sent.
 * A server grants the floor, a relay passes the units of one grant, listeners play in order.
 */
public final class TalkNet {
    private static final int GROUPS = 3;
    private static final int MEMBERS = 6;
    private static final int NOBODY = -1;
    private static final int NEVER = -1;

    private static final int MOST_PRIORITY = 7;
    private static final int MOST_LONGEST = 100;
    private static final int MOST_IDLE = 50;
    private static final int MOST_GRACE = 20;
    private static final int MOST_CARRIED = 200;
    private static final int MOST_MESSAGES = 60;
    private static final int MOST_WAITING = 4;
    private static final int MOST_UNITS = 64;

    private static final int TALKER_EVERY = 5;
    private static final int WINDOW = 16;
    private static final int PLAYS_AFTER = 2;
    private static final int LAST_GAP = 4;

    private static final int REQUEST = 1;
    private static final int RELEASE = 2;
    private static final int GRANTED = 3;
    private static final int QUEUED = 4;
    private static final int DENIED = 5;
    private static final int REVOKED = 6;
    private static final int ENDED = 7;
    private static final int TALKER = 8;
    private static final int PASSED = 9;
    private static final int GATE = 10;
    private static final int UNIT = 11;

    private static final int STATE_NONE = 0;
    private static final int STATE_ASKED = 1;
    private static final int STATE_QUEUED = 2;
    private static final int STATE_GRANTED = 3;
    private static final int STATE_REVOKED = 4;

    private final Net net;
    private final Group[] groups;

    public TalkNet() {
        Net made = new Net();
        Group[] all = new Group[GROUPS];
        for (int g = 0; g < GROUPS; g++) {
            all[g] = new Group(made, g);
        }
        net = made;
        groups = all;
    }

    public void rules(int group, boolean preempts, int longest, int idle, int grace)
            throws NoSuchElementException, IllegalArgumentException {
        Group of = groupAt(group);
        if (!isWithin(longest, 1, MOST_LONGEST) || !isWithin(idle, 1, MOST_IDLE) || !isWithin(grace, 0, MOST_GRACE)) {
            throw new IllegalArgumentException();
        }
        of.rules.become(preempts, longest, idle, grace);
    }

    public void member(int group, int member, int priority) throws NoSuchElementException, IllegalArgumentException {
        Member who = memberAt(group, member);
        if (!isWithin(priority, 0, MOST_PRIORITY)) {
            throw new IllegalArgumentException();
        }
        who.there = true;
        who.priority = priority;
    }

    public boolean leave(int group, int member) throws NoSuchElementException {
        Member who = memberAt(group, member);
        if (!who.there) {
            return false;
        }
        // Gone before the server frees the floor: the next TALKER is not for the one that leaves.
        who.goAway();
        groups[group].server.takeBack(member);
        return true;
    }

    public int press(int group, int member, boolean emergency) throws NoSuchElementException, IllegalStateException {
        Member who = memberAt(group, member);
        if (!who.there || who.state != STATE_NONE) {
            throw new IllegalStateException();
        }
        return who.ask(emergency);
    }

    public void again(int group, int member) throws NoSuchElementException, IllegalStateException {
        Member who = memberAt(group, member);
        if (!who.there || !who.hopes()) {
            throw new IllegalStateException();
        }
        who.sendRequest();
    }

    public void release(int group, int member) throws NoSuchElementException, IllegalStateException {
        Member who = memberAt(group, member);
        if (!who.there || who.state == STATE_NONE) {
            throw new IllegalStateException();
        }
        who.sendRelease();
    }

    public int unit(int group, int member, int value)
            throws NoSuchElementException, IllegalStateException, UnsupportedOperationException {
        Member who = memberAt(group, member);
        if (!who.there || !who.mayTalk()) {
            throw new IllegalStateException();
        }
        if (who.sent >= MOST_UNITS) {
            throw new UnsupportedOperationException();
        }
        return who.sendUnit(value);
    }

    public int messages() {
        return net.size;
    }

    public int message(int k, int what) throws NoSuchElementException, IndexOutOfBoundsException {
        needMessage(k);
        if (!isWithin(what, 0, Net.PARTS - 1)) {
            throw new IndexOutOfBoundsException();
        }
        return net.part(k, what);
    }

    public void carry(int k) throws NoSuchElementException {
        needMessage(k);
        bring(k, false);
    }

    public void twice(int k) throws NoSuchElementException {
        needMessage(k);
        bring(k, true);
    }

    public void drop(int k) throws NoSuchElementException {
        needMessage(k);
        net.remove(k);
    }

    public int run(int n) throws IllegalArgumentException {
        if (!isWithin(n, 0, MOST_CARRIED)) {
            throw new IllegalArgumentException();
        }
        int carried = 0;
        while (carried < n && net.size > 0) {
            bring(0, false);
            carried++;
        }
        return carried;
    }

    public int tick() {
        net.time++;
        for (int g = 0; g < GROUPS; g++) {
            groups[g].server.passTime();
            groups[g].playAll();
        }
        return net.time;
    }

    public int server(int group, int what) throws NoSuchElementException, IndexOutOfBoundsException {
        return groupAt(group).server.told(what);
    }

    public int waiting(int group, int place) throws NoSuchElementException, IndexOutOfBoundsException {
        Server of = groupAt(group).server;
        if (!isWithin(place, 0, of.waitCount - 1)) {
            throw new IndexOutOfBoundsException();
        }
        return of.waits[place];
    }

    public int relay(int group, int what) throws NoSuchElementException, IndexOutOfBoundsException {
        return groupAt(group).relay.told(what);
    }

    public int about(int group, int member, int what) throws NoSuchElementException, IndexOutOfBoundsException {
        return memberAt(group, member).told(what);
    }

    public int lost() {
        return net.lostCount;
    }

    private static boolean isWithin(int number, int least, int most) {
        return number >= least && number <= most;
    }

    private Group groupAt(int group) {
        if (!isWithin(group, 0, GROUPS - 1)) {
            throw new NoSuchElementException();
        }
        return groups[group];
    }

    private Member memberAt(int group, int member) {
        Group of = groupAt(group);
        if (!isWithin(member, 0, MEMBERS - 1)) {
            throw new NoSuchElementException();
        }
        return of.members[member];
    }

    private void needMessage(int k) {
        if (!isWithin(k, 0, net.size - 1)) {
            throw new NoSuchElementException();
        }
    }

    private void bring(int k, boolean stays) {
        int kind = net.part(k, 0);
        Group group = groups[net.part(k, 1)];
        int member = net.part(k, 2);
        int a = net.part(k, 3);
        int b = net.part(k, 4);
        int c = net.part(k, 5);
        // Out of the row first: its place is free for what its coming sends.
        if (!stays) {
            net.remove(k);
        }
        switch (kind) {
            case REQUEST:
                group.server.requestComes(member, a, b == 1);
                break;
            case RELEASE:
                group.server.releaseComes(member, a);
                break;
            case GATE:
                group.relay.gateComes(a, b);
                break;
            case UNIT:
                group.relay.unitComes(member, a, b, c);
                break;
            default:
                group.members[member].messageComes(kind, a, b, c);
                break;
        }
    }

    /** The messages on their way, and the time that all parts share. */
    private static final class Net {
        private static final int PARTS = 6;

        // One flat row, used again for every message, so that no call makes an object.
        private final int[] row = new int[MOST_MESSAGES * PARTS];
        private int size;
        private int lostCount;
        private int time;

        private void send(int kind, int group, int member, int a, int b, int c) {
            if (size >= MOST_MESSAGES) {
                lostCount++;
                return;
            }
            int at = size * PARTS;
            row[at] = kind;
            row[at + 1] = group;
            row[at + 2] = member;
            row[at + 3] = a;
            row[at + 4] = b;
            row[at + 5] = c;
            size++;
        }

        private int part(int k, int what) {
            return row[k * PARTS + what];
        }

        private void remove(int k) {
            int behind = size - k - 1;
            System.arraycopy(row, (k + 1) * PARTS, row, k * PARTS, behind * PARTS);
            size--;
        }
    }

    /** What a group allows its holders. */
    private static final class Rules {
        private boolean preempts = false;
        private int longest = 50;
        private int idle = 20;
        private int grace = 5;

        private void become(boolean newPreempts, int newLongest, int newIdle, int newGrace) {
            preempts = newPreempts;
            longest = newLongest;
            idle = newIdle;
            grace = newGrace;
        }
    }

    /** One group: its members, its server and its relay. */
    private static final class Group {
        private final Net net;
        private final Rules rules;
        private final Member[] members;
        private final Server server;
        private final Relay relay;

        private Group(Net ofAll, int number) {
            Rules own = new Rules();
            Member[] all = new Member[MEMBERS];
            for (int m = 0; m < MEMBERS; m++) {
                all[m] = new Member(ofAll, number, m);
            }
            Server grants = new Server(ofAll, number, own, all);
            net = ofAll;
            rules = own;
            members = all;
            server = grants;
            relay = new Relay(ofAll, number, all, grants);
        }

        private void playAll() {
            for (int m = 0; m < MEMBERS; m++) {
                if (members[m].there) {
                    members[m].listener.passTime(net.time);
                }
            }
        }
    }

    /** One who talks and listens: what it knows by the messages that came to it. */
    private static final class Member {
        private final Net net;
        private final int group;
        private final int number;
        private final Listener listener = new Listener();
        private boolean there;
        private int priority;
        private int state = STATE_NONE;
        private int request;
        private boolean emergency;
        private int place;
        private int grant;
        private int sent;
        private int seenGrant;
        private int seenTalker = NOBODY;

        private Member(Net ofAll, int ofGroup, int ownNumber) {
            net = ofAll;
            group = ofGroup;
            number = ownNumber;
        }

        private boolean hopes() {
            return state == STATE_ASKED || state == STATE_QUEUED;
        }

        private boolean mayTalk() {
            return state == STATE_GRANTED || state == STATE_REVOKED;
        }

        private void goAway() {
            there = false;
            state = STATE_NONE;
            listener.goesOn = false;
        }

        private int ask(boolean asEmergency) {
            request++;
            emergency = asEmergency;
            state = STATE_ASKED;
            sendRequest();
            return request;
        }

        private void sendRequest() {
            net.send(REQUEST, group, number, request, emergency ? 1 : 0, 0);
        }

        private void sendRelease() {
            net.send(RELEASE, group, number, request, 0, 0);
            state = STATE_NONE;
        }

        private int sendUnit(int value) {
            int unitNumber = sent;
            net.send(UNIT, group, number, grant, unitNumber, value);
            sent++;
            return unitNumber;
        }

        private void messageComes(int kind, int a, int b, int c) {
            if (!there) {
                return;
            }
            switch (kind) {
                case GRANTED:
                case QUEUED:
                case DENIED:
                    answerComes(kind, a, b);
                    break;
                case REVOKED:
                    if (state == STATE_GRANTED && a == grant) {
                        state = STATE_REVOKED;
                    }
                    break;
                case ENDED:
                    if (mayTalk() && a == grant) {
                        state = STATE_NONE;
                    }
                    break;
                case TALKER:
                    talkerComes(a, b);
                    break;
                case PASSED:
                    listener.passedComes(a, b, c, net.time);
                    break;
                default:
                    break;
            }
        }

        private void answerComes(int kind, int ofRequest, int b) {
            // An answer to an older request, or one that comes too late, must not change the state.
            if (!hopes() || ofRequest != request) {
                return;
            }
            if (kind == GRANTED) {
                state = STATE_GRANTED;
                grant = b;
                sent = 0;
            } else if (kind == QUEUED) {
                state = STATE_QUEUED;
                place = b;
            } else {
                state = STATE_NONE;
            }
        }

        private void talkerComes(int ofGrant, int who) {
            if (ofGrant >= seenGrant) {
                seenGrant = ofGrant;
                seenTalker = who;
            }
        }

        private int told(int what) {
            switch (what) {
                case 0:
                    return there ? 1 : 0;
                case 1:
                    return priority;
                case 2:
                    return state;
                case 3:
                    return request;
                case 4:
                    return place;
                case 5:
                    return grant;
                case 6:
                    return sent;
                case 7:
                    return seenTalker;
                default:
                    return listener.told(what);
            }
        }
    }

    /** Plays the units of one spurt in order, with gaps for what is late. */
    private static final class Listener {
        // Kept units lie within WINDOW numbers from next on, so number % WINDOW is a slot of its own.
        private final boolean[] kept = new boolean[WINDOW];
        private final int[] values = new int[WINDOW];
        private int grant;
        private boolean goesOn;
        private int next;
        private int since;
        private int gapsInRow;
        private int played;
        private int gaps;
        private int late;
        private int sum;

        private void passedComes(int ofGrant, int number, int value, int time) {
            if (ofGrant < grant || ofGrant == grant && !goesOn) {
                late++;
                return;
            }
            if (ofGrant > grant) {
                begin(ofGrant, number, time);
            }
            if (number < next || number - next >= WINDOW || kept[number % WINDOW]) {
                late++;
                return;
            }
            kept[number % WINDOW] = true;
            values[number % WINDOW] = value;
        }

        private void begin(int ofGrant, int number, int time) {
            grant = ofGrant;
            goesOn = true;
            next = number;
            since = time;
            gapsInRow = 0;
            for (int slot = 0; slot < WINDOW; slot++) {
                kept[slot] = false;
            }
        }

        private void passTime(int time) {
            if (!goesOn || time - since < PLAYS_AFTER) {
                return;
            }
            int slot = next % WINDOW;
            next++;
            if (kept[slot]) {
                kept[slot] = false;
                played++;
                gapsInRow = 0;
                sum = sum * 31 + values[slot];
                return;
            }
            gaps++;
            gapsInRow++;
            sum = sum * 31 - 1;
            goesOn = gapsInRow < LAST_GAP;
        }

        private int told(int what) {
            switch (what) {
                case 8:
                    return grant;
                case 9:
                    return goesOn ? 1 : 0;
                case 10:
                    return next;
                case 11:
                    return played;
                case 12:
                    return gaps;
                case 13:
                    return late;
                case 14:
                    return sum;
                default:
                    throw new IndexOutOfBoundsException();
            }
        }
    }

    /** What the server heard of one member: its newest request, as it was then. */
    private static final class Heard {
        private int greatest;
        private boolean denied;
        private boolean emergency;
        private int priority;

        private void become(int number) {
            greatest = number;
            denied = false;
        }

        private boolean isAbove(Heard other) {
            return emergency == other.emergency ? priority > other.priority : emergency;
        }
    }

    /** Grants the floor of one group, queues and revokes. */
    private static final class Server {
        private final Net net;
        private final int group;
        private final Rules rules;
        private final Member[] members;
        private final Heard[] heard;
        // A copy, for rules that change later do not bind a grant that has begun.
        private final Rules held = new Rules();
        private final int[] waits = new int[MOST_WAITING];
        private int waitCount;
        private int grants;
        private int holder = NOBODY;
        private boolean revoked;
        private int revokedAt;
        private int began = NEVER;
        private int lastPassed = NEVER;

        private Server(Net ofAll, int ofGroup, Rules ofAllGrants, Member[] all) {
            Heard[] none = new Heard[MEMBERS];
            for (int m = 0; m < MEMBERS; m++) {
                none[m] = new Heard();
            }
            net = ofAll;
            group = ofGroup;
            rules = ofAllGrants;
            members = all;
            heard = none;
        }

        private void requestComes(int member, int number, boolean emergency) {
            Heard from = heard[member];
            if (!members[member].there || number < from.greatest) {
                return;
            }
            if (number == from.greatest) {
                answerAgain(member);
                return;
            }
            from.become(number);
            takeBack(member);
            from.emergency = emergency;
            from.priority = members[member].priority;
            if (holder == NOBODY && waitCount == 0) {
                grantFloor(member);
            } else if (waitCount >= MOST_WAITING) {
                from.denied = true;
                net.send(DENIED, group, member, number, 0, 0);
            } else {
                queueUp(member);
                revokeFor(member);
            }
        }

        private void answerAgain(int member) {
            int number = heard[member].greatest;
            int place = placeOf(member);
            if (holder == member) {
                net.send(GRANTED, group, member, number, grants, 0);
            } else if (place < waitCount) {
                net.send(QUEUED, group, member, number, place, 0);
            } else if (heard[member].denied) {
                net.send(DENIED, group, member, number, 0, 0);
            }
        }

        private void releaseComes(int member, int number) {
            Heard from = heard[member];
            if (number < from.greatest) {
                return;
            }
            if (number > from.greatest) {
                from.become(number);
            }
            takeBack(member);
        }

        /** Frees the floor if the member holds it; if it waits instead, it waits no longer. */
        private void takeBack(int member) {
            if (holder != member) {
                stopWaiting(placeOf(member));
                return;
            }
            holder = NOBODY;
            revoked = false;
            began = NEVER;
            lastPassed = NEVER;
            if (waitCount > 0) {
                int first = waits[0];
                stopWaiting(0);
                grantFloor(first);
            } else {
                net.send(GATE, group, 0, grants, NOBODY, 0);
            }
        }

        private void grantFloor(int member) {
            grants++;
            holder = member;
            began = net.time;
            held.become(rules.preempts, rules.longest, rules.idle, rules.grace);
            net.send(GRANTED, group, member, heard[member].greatest, grants, 0);
            net.send(GATE, group, member, grants, member, 0);
            tellTalker();
        }

        private void tellTalker() {
            for (int m = 0; m < MEMBERS; m++) {
                if (m != holder && members[m].there) {
                    net.send(TALKER, group, m, grants, holder, 0);
                }
            }
        }

        /** The member's place in the row that waits, or how many wait if it does not. */
        private int placeOf(int member) {
            int place = 0;
            while (place < waitCount && waits[place] != member) {
                place++;
            }
            return place;
        }

        private void stopWaiting(int place) {
            if (place >= waitCount) {
                return;
            }
            for (int p = place + 1; p < waitCount; p++) {
                waits[p - 1] = waits[p];
            }
            waitCount--;
        }

        private void queueUp(int member) {
            int place = waitCount;
            while (place > 0 && heard[member].isAbove(heard[waits[place - 1]])) {
                waits[place] = waits[place - 1];
                place--;
            }
            waits[place] = member;
            waitCount++;
            net.send(QUEUED, group, member, heard[member].greatest, place, 0);
        }

        private void revokeFor(int member) {
            if (holder == NOBODY || revoked || !held.preempts || !heard[member].isAbove(heard[holder])) {
                return;
            }
            revoked = true;
            revokedAt = net.time;
            net.send(REVOKED, group, holder, grants, 0, 0);
        }

        private void unitPassed(int ofGrant) {
            if (holder != NOBODY && ofGrant == grants) {
                lastPassed = net.time;
            }
        }

        private void passTime() {
            if (holder != NOBODY && isTimeUp()) {
                net.send(ENDED, group, holder, grants, 0, 0);
                takeBack(holder);
            }
            if (holder != NOBODY && net.time % TALKER_EVERY == 0) {
                tellTalker();
            }
        }

        private boolean isTimeUp() {
            int quietSince = Math.max(began, lastPassed);
            return revoked && net.time - revokedAt >= held.grace
                    || net.time - began >= held.longest
                    || net.time - quietSince >= held.idle;
        }

        private int told(int what) {
            switch (what) {
                case 0:
                    return grants;
                case 1:
                    return holder;
                case 2:
                    return waitCount;
                case 3:
                    return revoked ? 1 : 0;
                case 4:
                    return began;
                case 5:
                    return lastPassed;
                default:
                    throw new IndexOutOfBoundsException();
            }
        }
    }

    /** Passes the units of the one grant that it was told, each once. */
    private static final class Relay {
        private final Net net;
        private final int group;
        private final Member[] members;
        private final Server server;
        private int grant;
        private int talker = NOBODY;
        // Bit n stands for unit n of the gate's grant: there are 64 at most.
        private long passedUnits;
        private int passedCount;
        private int stoppedCount;

        private Relay(Net ofAll, int ofGroup, Member[] all, Server grants) {
            net = ofAll;
            group = ofGroup;
            members = all;
            server = grants;
        }

        private void gateComes(int ofGrant, int who) {
            if (ofGrant > grant) {
                grant = ofGrant;
                talker = who;
                passedUnits = 0L;
            } else if (ofGrant == grant && who == NOBODY) {
                talker = NOBODY;
            }
        }

        private void unitComes(int member, int ofGrant, int number, int value) {
            if (!isToPass(member, ofGrant, number)) {
                stoppedCount++;
                return;
            }
            passedUnits |= 1L << number;
            passedCount++;
            for (int m = 0; m < MEMBERS; m++) {
                if (m != member && members[m].there) {
                    net.send(PASSED, group, m, ofGrant, number, value);
                }
            }
            server.unitPassed(ofGrant);
        }

        private boolean isToPass(int member, int ofGrant, int number) {
            // NOBODY sends nothing, so a gate without a member lets no unit through.
            return member == talker && ofGrant == grant && isWithin(number, 0, MOST_UNITS - 1)
                    && ((passedUnits >>> number) & 1L) == 0L;
        }

        private int told(int what) {
            switch (what) {
                case 0:
                    return grant;
                case 1:
                    return talker;
                case 2:
                    return passedCount;
                case 3:
                    return stoppedCount;
                default:
                    throw new IndexOutOfBoundsException();
            }
        }
    }
}
