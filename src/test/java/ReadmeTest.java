/** README.md's example, with the answers that it tells. */
public final class ReadmeTest {
    public static void main(String[] args) {
        TalkNet net = new TalkNet();
        net.rules(0, true, 50, 20, 2);
        net.member(0, 0, 3);
        net.member(0, 1, 5);
        int number = net.press(0, 0, false);
        int carried = net.run(200);
        net.unit(0, 0, 77);
        net.carry(0);
        net.twice(0);
        net.carry(0);
        net.tick();
        int time = net.tick();
        int played = net.about(0, 1, 11);
        int late = net.about(0, 1, 13);
        net.press(0, 1, false);
        net.run(200);
        net.tick();
        net.tick();
        int holder = net.server(0, 1);

        Check.due("number", number, 1);
        Check.due("carried", carried, 4);
        Check.due("time", time, 2);
        Check.due("played", played, 1);
        Check.due("late", late, 1);
        Check.due("holder", holder, 1);
        Check.end();
    }
}
