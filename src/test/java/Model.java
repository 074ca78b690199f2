import java.util.ArrayList;
import java.util.HashMap;
import java.util.HashSet;
import java.util.List;
import java.util.Map;
import java.util.NoSuchElementException;
import java.util.Set;

/** The document in the plainest words that the Java library has, to hold TalkNet against. */
final class Model {
    record Message(int kind, int group, int member, int a, int b, int c) {
        @Override
        public String toString() {
            return kind + "/" + group + "/" + member + "(" + a + "," + b + "," + c + ")";
        }
    }

    record Rules(boolean preempts, int longest, int idle, int grace) {
    }

    record Request(int member, int number, boolean emergency, int priority, long heard) {
        boolean above(Request other) {
            if (emergency && !other.emergency) {
                return true;
            }
            return emergency == other.emergency && priority > other.priority;
        }
    }

    record Grant(Request request, int number, Rules rules, int began) {
    }

    static final class Person {
        boolean there = false;
        int priority = 0;
        String state = "none";
        int request = 0;
        boolean emergency = false;
        int place = 0;
        int grant = 0;
        int sent = 0;
        int sawGrant = 0;
        int sees = -1;
        int spurt = 0;
        boolean goesOn = false;
        int next = 0;
        int since = 0;
        Map<Integer, Integer> kept = new HashMap<>();
        List<Integer> heard = new ArrayList<>();
        List<Boolean> wasGap = new ArrayList<>();
        int spurtFrom = 0;
        int late = 0;
        int greatest = 0;
        boolean denied = false;
    }

    static final class Circle {
        Rules rules = new Rules(false, 50, 20, 5);
        Person[] people = new Person[6];
        int grants = 0;
        Grant holder = null;
        Integer revoked = null;
        Integer lastUnit = null;
        List<Request> waits = new ArrayList<>();
        int gate = 0;
        int gateMember = -1;
        Set<Integer> passed = new HashSet<>();
        int passedCount = 0;
        int stopped = 0;
    }

    static final List<String> STATES = List.of("none", "asked", "queued", "granted", "revoked");

    final Circle[] circles = new Circle[3];
    final List<Message> row = new ArrayList<>();
    int lost = 0;
    int time = 0;
    long heardSoFar = 0;

    Model() {
        for (int g = 0; g < 3; g++) {
            circles[g] = new Circle();
            for (int m = 0; m < 6; m++) {
                circles[g].people[m] = new Person();
            }
        }
    }

    void rules(int group, boolean preempts, int longest, int idle, int grace) {
        Circle circle = circle(group);
        if (longest < 1 || longest > 100 || idle < 1 || idle > 50 || grace < 0 || grace > 20) {
            throw new IllegalArgumentException();
        }
        circle.rules = new Rules(preempts, longest, idle, grace);
    }

    void member(int group, int member, int priority) {
        Person person = person(group, member);
        if (priority < 0 || priority > 7) {
            throw new IllegalArgumentException();
        }
        person.there = true;
        person.priority = priority;
    }

    boolean leave(int group, int member) {
        Person person = person(group, member);
        boolean was = person.there;
        if (was) {
            person.there = false;
            person.state = "none";
            person.goesOn = false;
            letGo(group, member);
        }
        return was;
    }

    int press(int group, int member, boolean emergency) {
        Person person = inState(group, member, "none");
        person.request++;
        person.state = "asked";
        person.emergency = emergency;
        send(1, group, member, person.request, emergency ? 1 : 0, 0);
        return person.request;
    }

    void again(int group, int member) {
        Person person = inState(group, member, "asked", "queued");
        send(1, group, member, person.request, person.emergency ? 1 : 0, 0);
    }

    void release(int group, int member) {
        Person person = inState(group, member, "asked", "queued", "granted", "revoked");
        send(2, group, member, person.request, 0, 0);
        person.state = "none";
    }

    int unit(int group, int member, int value) {
        Person person = inState(group, member, "granted", "revoked");
        if (person.sent == 64) {
            throw new UnsupportedOperationException();
        }
        send(11, group, member, person.grant, person.sent, value);
        return person.sent++;
    }

    void carry(int k) {
        Message message = messageAt(k);
        row.remove(k);
        comes(message);
    }

    void twice(int k) {
        comes(messageAt(k));
    }

    void drop(int k) {
        messageAt(k);
        row.remove(k);
    }

    int run(int n) {
        if (n < 0 || n > 200) {
            throw new IllegalArgumentException();
        }
        for (int done = 0; done < n; done++) {
            if (row.isEmpty()) {
                return done;
            }
            carry(0);
        }
        return n;
    }

    int tick() {
        time++;
        for (int g = 0; g < 3; g++) {
            Circle circle = circles[g];
            if (circle.holder != null && mustEnd(circle)) {
                send(7, g, circle.holder.request().member(), circle.holder.number(), 0, 0);
                freed(g);
            }
            if (time % 5 == 0 && circle.holder != null) {
                talker(g);
            }
            for (Person person : circle.people) {
                if (person.there && person.goesOn && time >= person.since + 2) {
                    play(person);
                }
            }
        }
        return time;
    }

    private boolean mustEnd(Circle circle) {
        Grant grant = circle.holder;
        int quiet = circle.lastUnit == null ? grant.began() : circle.lastUnit;
        return circle.revoked != null && circle.revoked + grant.rules().grace() <= time
                || grant.began() + grant.rules().longest() <= time
                || quiet + grant.rules().idle() <= time;
    }

    private void play(Person person) {
        Integer value = person.kept.get(person.next);
        person.heard.add(value == null ? -1 : value);
        person.wasGap.add(value == null);
        person.next++;
        int end = person.wasGap.size();
        if (end - person.spurtFrom >= 4 && !person.wasGap.subList(end - 4, end).contains(false)) {
            person.goesOn = false;
        }
    }

    private void comes(Message message) {
        int group = message.group();
        int member = message.member();
        if (message.kind() == 1) {
            requestComes(group, member, message.a(), message.b() == 1);
        } else if (message.kind() == 2) {
            Person person = circles[group].people[member];
            if (message.a() >= person.greatest) {
                hearNumber(person, message.a());
                letGo(group, member);
            }
        } else if (message.kind() == 10) {
            gateComes(circles[group], message.a(), message.b());
        } else if (message.kind() == 11) {
            unitComes(message);
        } else if (circles[group].people[member].there) {
            comesToPerson(circles[group].people[member], message);
        }
    }

    private static void hearNumber(Person person, int number) {
        if (number > person.greatest) {
            person.greatest = number;
            person.denied = false;
        }
    }

    private void comesToPerson(Person person, Message message) {
        boolean hopes = person.state.equals("asked") || person.state.equals("queued");
        boolean answer = hopes && message.a() == person.request;
        boolean talks = person.state.equals("granted") || person.state.equals("revoked");
        switch (message.kind()) {
            case 3 -> {
                if (answer) {
                    person.state = "granted";
                    person.grant = message.b();
                    person.sent = 0;
                }
            }
            case 4 -> {
                if (answer) {
                    person.state = "queued";
                    person.place = message.b();
                }
            }
            case 5 -> person.state = answer ? "none" : person.state;
            case 6 -> person.state = person.state.equals("granted") && person.grant == message.a() ? "revoked" : person.state;
            case 7 -> person.state = talks && person.grant == message.a() ? "none" : person.state;
            case 8 -> {
                if (message.a() >= person.sawGrant) {
                    person.sawGrant = message.a();
                    person.sees = message.b();
                }
            }
            default -> passedComes(person, message);
        }
    }

    private void passedComes(Person person, Message message) {
        if (message.a() < person.spurt || message.a() == person.spurt && !person.goesOn) {
            person.late++;
            return;
        }
        if (message.a() > person.spurt) {
            person.spurt = message.a();
            person.goesOn = true;
            person.next = message.b();
            person.since = time;
            person.kept.clear();
            person.spurtFrom = person.heard.size();
        }
        if (message.b() < person.next || message.b() >= person.next + 16 || person.kept.containsKey(message.b())) {
            person.late++;
        } else {
            person.kept.put(message.b(), message.c());
        }
    }

    private void requestComes(int group, int member, int number, boolean emergency) {
        Circle circle = circles[group];
        Person person = circle.people[member];
        if (!person.there || number < person.greatest) {
            return;
        }
        if (number == person.greatest) {
            if (holds(circle, member)) {
                send(3, group, member, number, circle.holder.number(), 0);
            } else if (placeOf(circle, member) >= 0) {
                send(4, group, member, number, placeOf(circle, member), 0);
            } else if (person.denied) {
                send(5, group, member, number, 0, 0);
            }
            return;
        }
        hearNumber(person, number);
        letGo(group, member);
        Request request = new Request(member, number, emergency, person.priority, heardSoFar++);
        if (circle.holder == null && circle.waits.isEmpty()) {
            grant(group, request);
        } else if (circle.waits.size() == 4) {
            person.denied = true;
            send(5, group, member, number, 0, 0);
        } else {
            wait(group, request);
        }
    }

    private void wait(int group, Request request) {
        Circle circle = circles[group];
        circle.waits.add(request);
        circle.waits.sort((x, y) -> x.above(y) ? -1 : y.above(x) ? 1 : Long.compare(x.heard(), y.heard()));
        send(4, group, request.member(), request.number(), circle.waits.indexOf(request), 0);
        if (circle.holder.rules().preempts() && circle.revoked == null && request.above(circle.holder.request())) {
            circle.revoked = time;
            send(6, group, circle.holder.request().member(), circle.holder.number(), 0, 0);
        }
    }

    private static boolean holds(Circle circle, int member) {
        return circle.holder != null && circle.holder.request().member() == member;
    }

    private static int placeOf(Circle circle, int member) {
        for (int place = 0; place < circle.waits.size(); place++) {
            if (circle.waits.get(place).member() == member) {
                return place;
            }
        }
        return -1;
    }

    private void letGo(int group, int member) {
        Circle circle = circles[group];
        circle.waits.removeIf(request -> request.member() == member);
        if (holds(circle, member)) {
            freed(group);
        }
    }

    private void freed(int group) {
        Circle circle = circles[group];
        circle.holder = null;
        circle.revoked = null;
        circle.lastUnit = null;
        if (circle.waits.isEmpty()) {
            send(10, group, 0, circle.grants, -1, 0);
        } else {
            grant(group, circle.waits.remove(0));
        }
    }

    private void grant(int group, Request request) {
        Circle circle = circles[group];
        circle.grants++;
        circle.holder = new Grant(request, circle.grants, circle.rules, time);
        send(3, group, request.member(), request.number(), circle.grants, 0);
        send(10, group, request.member(), circle.grants, request.member(), 0);
        talker(group);
    }

    private void talker(int group) {
        Grant grant = circles[group].holder;
        toOthers(8, group, grant.request().member(), grant.number(), grant.request().member(), 0);
    }

    private void toOthers(int kind, int group, int but, int a, int b, int c) {
        for (int m = 0; m < 6; m++) {
            if (m != but && circles[group].people[m].there) {
                send(kind, group, m, a, b, c);
            }
        }
    }

    private static void gateComes(Circle circle, int grant, int member) {
        if (grant > circle.gate) {
            circle.passed.clear();
        }
        if (grant > circle.gate || grant == circle.gate && member == -1) {
            circle.gate = grant;
            circle.gateMember = member;
        }
    }

    private void unitComes(Message message) {
        Circle circle = circles[message.group()];
        boolean fits = circle.gateMember != -1 && message.a() == circle.gate
                && message.member() == circle.gateMember && message.b() <= 63;
        if (!fits || !circle.passed.add(message.b())) {
            circle.stopped++;
            return;
        }
        circle.passedCount++;
        toOthers(9, message.group(), message.member(), message.a(), message.b(), message.c());
        if (circle.holder != null && circle.holder.number() == message.a()) {
            circle.lastUnit = time;
        }
    }

    private void send(int kind, int group, int member, int a, int b, int c) {
        if (row.size() == 60) {
            lost++;
        } else {
            row.add(new Message(kind, group, member, a, b, c));
        }
    }

    private Circle circle(int group) {
        if (group < 0 || group > 2) {
            throw new NoSuchElementException();
        }
        return circles[group];
    }

    private Person person(int group, int member) {
        Circle circle = circle(group);
        if (member < 0 || member > 5) {
            throw new NoSuchElementException();
        }
        return circle.people[member];
    }

    private Person inState(int group, int member, String... states) {
        Person person = person(group, member);
        if (!person.there || !List.of(states).contains(person.state)) {
            throw new IllegalStateException();
        }
        return person;
    }

    private Message messageAt(int k) {
        if (k < 0 || k >= row.size()) {
            throw new NoSuchElementException();
        }
        return row.get(k);
    }

    /** The same picture that Check.net makes of a TalkNet. */
    String net() {
        StringBuilder text = new StringBuilder("lost " + lost + "; row ");
        for (int k = 0; k < row.size(); k++) {
            text.append(k == 0 ? "" : " ").append(row.get(k));
        }
        return text.toString();
    }

    /** The same picture that Check.group makes of a TalkNet. */
    String group(int group) {
        Circle circle = circles[group];
        StringBuilder text = new StringBuilder();
        text.append("server ").append(server(circle)).append("; waiting ");
        for (int place = 0; place < circle.waits.size(); place++) {
            text.append(place == 0 ? "" : " ").append(circle.waits.get(place).member());
        }
        text.append("; relay ").append(words(circle.gate, circle.gateMember, circle.passedCount, circle.stopped));
        for (Person person : circle.people) {
            text.append("; about ").append(about(person));
        }
        return text.toString();
    }

    private static String server(Circle circle) {
        boolean held = circle.holder != null;
        return words(circle.grants, held ? circle.holder.request().member() : -1, circle.waits.size(),
                circle.revoked == null ? 0 : 1, held ? circle.holder.began() : -1,
                circle.lastUnit == null ? -1 : circle.lastUnit);
    }

    private static String about(Person person) {
        int sum = 0;
        int gaps = 0;
        for (int i = 0; i < person.heard.size(); i++) {
            sum = sum * 31 + person.heard.get(i);
            gaps += person.wasGap.get(i) ? 1 : 0;
        }
        return words(person.there ? 1 : 0, person.priority, STATES.indexOf(person.state), person.request,
                person.place, person.grant, person.sent, person.sees, person.spurt, person.goesOn ? 1 : 0,
                person.next, person.heard.size() - gaps, gaps, person.late, sum);
    }

    private static String words(int... numbers) {
        StringBuilder text = new StringBuilder();
        for (int i = 0; i < numbers.length; i++) {
            text.append(i == 0 ? "" : " ").append(numbers[i]);
        }
        return text.toString();
    }
}
