import java.util.ArrayList;
import java.util.List;
import java.util.Random;
import java.util.function.Function;

/**
 * Chance-made runs of calls, the same every time, that TalkNet and the plain model must answer alike.
 * A picture takes many of an object's 512 calls, so each run is made anew for each picture of its end.
 */
public final class ModelTest {
    private static final int RUNS = 4000;
    private static final int MOST_CALLS = 400;
    private static final int CALLS_OF_AN_OBJECT = 512;

    // A mixed run; one whose messages mostly come in order; one whose row is mostly full.
    private static final int[][] WEIGHTS = {
        // rules member leave press again release unit carry twice drop run tick
        {2, 10, 3, 14, 5, 5, 14, 22, 8, 5, 4, 10},
        {2, 10, 1, 12, 2, 4, 30, 4, 3, 1, 20, 20},
        {1, 12, 1, 12, 12, 2, 40, 10, 12, 1, 1, 8},
    };

    /** One call with its arguments, made on either of the two. */
    private record Call(int which, int g, int m, int x, int y, int z, boolean flag) {
        Object of(TalkNet net) {
            switch (which) {
                case 0: net.rules(g, flag, x, y, z); return "";
                case 1: net.member(g, m, x); return "";
                case 2: return net.leave(g, m);
                case 3: return net.press(g, m, flag);
                case 4: net.again(g, m); return "";
                case 5: net.release(g, m); return "";
                case 6: return net.unit(g, m, x);
                case 7: net.carry(x); return "";
                case 8: net.twice(x); return "";
                case 9: net.drop(x); return "";
                case 10: return net.run(x);
                default: return net.tick();
            }
        }

        Object of(Model model) {
            switch (which) {
                case 0: model.rules(g, flag, x, y, z); return "";
                case 1: model.member(g, m, x); return "";
                case 2: return model.leave(g, m);
                case 3: return model.press(g, m, flag);
                case 4: model.again(g, m); return "";
                case 5: model.release(g, m); return "";
                case 6: return model.unit(g, m, x);
                case 7: model.carry(x); return "";
                case 8: model.twice(x); return "";
                case 9: model.drop(x); return "";
                case 10: return model.run(x);
                default: return model.tick();
            }
        }
    }

    public static void main(String[] args) {
        boolean alike = true;
        for (int run = 0; run < RUNS && alike; run++) {
            alike = oneRun(run);
        }
        Check.end();
    }

    private static boolean oneRun(int run) {
        Random chance = new Random(run);
        int[] weights = WEIGHTS[run % WEIGHTS.length];
        int groups = 1 + chance.nextInt(3);
        int count = 1 + chance.nextInt(MOST_CALLS);
        Model model = new Model();
        List<Call> calls = new ArrayList<>();
        List<String> answers = new ArrayList<>();
        for (int i = 0; i < count; i++) {
            Call call = choose(chance, weights, groups, model);
            calls.add(call);
            answers.add(answer(model, call));
        }
        boolean alike = true;
        // The row's picture asks for six parts of each message, and how many there are and were lost.
        if (count + 2 + 6 * model.row.size() <= CALLS_OF_AN_OBJECT) {
            alike = isAlike("run " + run, calls, answers, Check::net, model.net());
        }
        for (int g = 0; g < Check.GROUPS; g++) {
            int group = g;
            alike = alike && isAlike("run " + run, calls, answers, net -> Check.group(net, group), model.group(g));
        }
        return alike;
    }

    private static boolean isAlike(String run, List<Call> calls, List<String> answers,
            Function<TalkNet, String> picture, String want) {
        TalkNet net = new TalkNet();
        for (int i = 0; i < calls.size(); i++) {
            String got = answer(net, calls.get(i));
            if (!got.equals(answers.get(i))) {
                Check.due(run + ", call " + i + " " + calls.get(i), got, answers.get(i));
                return false;
            }
        }
        String got = picture.apply(net);
        Check.due(run + ", behind " + calls.size() + " calls", got, want);
        return got.equals(want);
    }

    private static String answer(TalkNet net, Call call) {
        try {
            return call.of(net).toString();
        } catch (RuntimeException e) {
            return e.getClass().getName();
        }
    }

    private static String answer(Model model, Call call) {
        try {
            return call.of(model).toString();
        } catch (RuntimeException e) {
            return e.getClass().getName();
        }
    }

    private static Call choose(Random chance, int[] weights, int groups, Model model) {
        int g = rarely(chance) ? chance.nextInt(5) - 1 : chance.nextInt(groups);
        int m = rarely(chance) ? chance.nextInt(8) - 1 : chance.nextInt(6);
        int which = weighted(chance, weights);
        switch (which) {
            case 0:
                return new Call(which, g, m, chance.nextInt(30), chance.nextInt(13), chance.nextInt(9) - 1, chance.nextInt(3) > 0);
            case 1:
                return new Call(which, g, m, rarely(chance) ? 8 : chance.nextInt(8), 0, 0, false);
            case 3:
                return new Call(which, g, m, 0, 0, 0, chance.nextInt(6) == 0);
            case 6:
                return new Call(which, g, talker(chance, model, g, m), chance.nextInt(), 0, 0, false);
            case 7:
            case 8:
            case 9:
                return new Call(which, g, m, rarely(chance) ? -1 : chance.nextInt(model.row.size() + 1), 0, 0, false);
            case 10:
                return new Call(which, g, m, rarely(chance) ? chance.nextInt(240) - 20 : chance.nextInt(12), 0, 0, false);
            default:
                return new Call(which, g, m, 0, 0, 0, false);
        }
    }

    private static boolean rarely(Random chance) {
        return chance.nextInt(50) == 0;
    }

    /** Mostly one that may talk: units by others are but refused. */
    private static int talker(Random chance, Model model, int g, int m) {
        if (g < 0 || g >= Check.GROUPS || chance.nextInt(10) == 0) {
            return m;
        }
        for (int other = 0; other < Check.MEMBERS; other++) {
            String state = model.circles[g].people[other].state;
            if (state.equals("granted") || state.equals("revoked")) {
                return other;
            }
        }
        return m;
    }

    private static int weighted(Random chance, int[] weights) {
        int all = 0;
        for (int weight : weights) {
            all += weight;
        }
        int left = chance.nextInt(all);
        int which = 0;
        while (left >= weights[which]) {
            left -= weights[which];
            which++;
        }
        return which;
    }
}
