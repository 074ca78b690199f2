/** Promise 1: what a new object answers; the rules at first are no, 50, 20 and 5. */
public final class NewObjectTest {
    public static void main(String[] args) {
        nothingIsThere();
        objectsShareNothing();
        rulesAtFirst();
        Check.end();
    }

    private static void nothingIsThere() {
        TalkNet net = new TalkNet();
        Check.due("messages", net.messages(), 0);
        Check.due("lost", net.lost(), 0);
        for (int g = 0; g < Check.GROUPS; g++) {
            Check.due("server " + g, Check.server(net, g), "0 -1 0 0 -1 -1");
            Check.due("relay " + g, Check.relay(net, g), "0 -1 0 0");
            for (int m = 0; m < Check.MEMBERS; m++) {
                Check.due("about " + g + " " + m, Check.about(net, g, m), "0 0 0 0 0 0 0 -1 0 0 0 0 0 0 0");
                Check.due("leave " + g + " " + m, net.leave(g, m), false);
            }
        }
        Check.due("run", net.run(200), 0);
        Check.due("first tick", net.tick(), 1);
        Check.due("second tick", net.tick(), 2);
        Check.due("ticks of empty groups send nothing", net.messages(), 0);
    }

    private static void objectsShareNothing() {
        TalkNet one = Check.with(0, 2, 3);
        String fresh = Check.all(new TalkNet());
        TalkNet other = new TalkNet();
        Check.ask(one, 0, 0, true);
        one.unit(0, 0, 9);
        one.tick();
        Check.due("another object", Check.all(other), fresh);
        Check.due("another object's time", other.tick(), 1);
    }

    private static void rulesAtFirst() {
        TalkNet idle = Check.with(0, 1, 0);
        Check.ask(idle, 0, 0, false);
        Check.ticks(idle, 19);
        Check.due("idle for 19", idle.server(0, 1), 0);
        idle.tick();
        Check.due("idle for 20", idle.server(0, 1), -1);

        TalkNet longest = Check.with(0, 1, 0);
        Check.ask(longest, 0, 0, false);
        for (int i = 0; i < 49; i++) {
            longest.unit(0, 0, i);
            longest.run(200);
            longest.tick();
        }
        Check.due("held for 49", longest.server(0, 1), 0);
        longest.tick();
        Check.due("held for 50", longest.server(0, 1), -1);

        TalkNet calm = Check.with(0, 2, 0);
        Check.ask(calm, 0, 0, false);
        Check.ask(calm, 0, 1, true);
        Check.due("no preempting at first", calm.server(0, 3), 0);
    }
}
