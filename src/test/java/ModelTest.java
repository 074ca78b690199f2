import java.util.Random;

/** Chance-made runs of calls, the same every time, that TalkNet and the plain model must answer alike. */
public final class ModelTest {
    private static final int RUNS = 600;
    private static final int CALLS = 512;

    // A mixed run; one whose messages mostly come in order; one whose row is mostly full.
    private static final int[][] WEIGHTS = {
        // rules member leave press again release unit carry twice drop run tick
        {2, 10, 3, 14, 5, 5, 14, 22, 8, 5, 4, 10},
        {2, 10, 1, 12, 2, 4, 30, 4, 3, 1, 20, 20},
        {1, 12, 1, 12, 12, 2, 40, 10, 12, 1, 1, 8},
    };

    /** One call with its arguments, made on either of the two. */
    private record Call(int which, int g, int m, int x, int y, int z, boolean flag) {
        Object of(TalkNet net) {
            switch (which) {
                case 0: net.rules(g, flag, x, y, z); return "";
                case 1: net.member(g, m, x); return "";
                case 2: return net.leave(g, m);
                case 3: return net.press(g, m, flag);
                case 4: net.again(g, m); return "";
                case 5: net.release(g, m); return "";
                case 6: return net.unit(g, m, x);
                case 7: net.carry(x); return "";
                case 8: net.twice(x); return "";
                case 9: net.drop(x); return "";
                case 10: return net.run(x);
                default: return net.tick();
            }
        }

        Object of(Model model) {
            switch (which) {
                case 0: model.rules(g, flag, x, y, z); return "";
                case 1: model.member(g, m, x); return "";
                case 2: return model.leave(g, m);
                case 3: return model.press(g, m, flag);
                case 4: model.again(g, m); return "";
                case 5: model.release(g, m); return "";
                case 6: return model.unit(g, m, x);
                case 7: model.carry(x); return "";
                case 8: model.twice(x); return "";
                case 9: model.drop(x); return "";
                case 10: return model.run(x);
                default: return model.tick();
            }
        }
    }

    public static void main(String[] args) {
        for (int run = 0; run < RUNS; run++) {
            if (!oneRun(run)) {
                break;
            }
        }
        Check.end();
    }

    private static boolean oneRun(int run) {
        Random chance = new Random(run);
        TalkNet net = new TalkNet();
        Model model = new Model();
        int[] weights = WEIGHTS[run % WEIGHTS.length];
        int groups = 1 + chance.nextInt(3);
        for (int i = 0; i < CALLS; i++) {
            Call call = choose(chance, weights, groups, net);
            String got = answer(net, call);
            String want = answer(model, call);
            String now = Check.all(net);
            String dueNow = model.all();
            if (!got.equals(want) || !now.equals(dueNow)) {
                Check.due("run " + run + ", call " + i + " " + call + ", answer", got, want);
                Check.due("run " + run + ", call " + i + " " + call + ", state", now, dueNow);
                return false;
            }
        }
        Check.due("run " + run, Check.all(net), model.all());
        return true;
    }

    private static String answer(TalkNet net, Call call) {
        try {
            return call.of(net).toString();
        } catch (RuntimeException e) {
            return e.getClass().getName();
        }
    }

    private static String answer(Model model, Call call) {
        try {
            return call.of(model).toString();
        } catch (RuntimeException e) {
            return e.getClass().getName();
        }
    }

    private static Call choose(Random chance, int[] weights, int groups, TalkNet net) {
        int g = rarely(chance) ? chance.nextInt(5) - 1 : chance.nextInt(groups);
        int m = rarely(chance) ? chance.nextInt(8) - 1 : chance.nextInt(6);
        int which = weighted(chance, weights);
        switch (which) {
            case 0:
                return new Call(which, g, m, chance.nextInt(30), chance.nextInt(13), chance.nextInt(9) - 1, chance.nextInt(3) > 0);
            case 1:
                return new Call(which, g, m, rarely(chance) ? 8 : chance.nextInt(8), 0, 0, false);
            case 3:
                return new Call(which, g, m, 0, 0, 0, chance.nextInt(6) == 0);
            case 6:
                return new Call(which, g, talker(chance, net, g, m), chance.nextInt(), 0, 0, false);
            case 7:
            case 8:
            case 9:
                return new Call(which, g, m, rarely(chance) ? -1 : chance.nextInt(net.messages() + 1), 0, 0, false);
            case 10:
                return new Call(which, g, m, rarely(chance) ? chance.nextInt(240) - 20 : chance.nextInt(12), 0, 0, false);
            default:
                return new Call(which, g, m, 0, 0, 0, false);
        }
    }

    private static boolean rarely(Random chance) {
        return chance.nextInt(50) == 0;
    }

    /** Mostly one that may talk: units by others are but refused. */
    private static int talker(Random chance, TalkNet net, int g, int m) {
        if (g < 0 || g >= Check.GROUPS || chance.nextInt(10) == 0) {
            return m;
        }
        for (int other = 0; other < Check.MEMBERS; other++) {
            if (net.about(g, other, 2) >= 3) {
                return other;
            }
        }
        return m;
    }

    private static int weighted(Random chance, int[] weights) {
        int all = 0;
        for (int weight : weights) {
            all += weight;
        }
        int left = chance.nextInt(all);
        int which = 0;
        while (left >= weights[which]) {
            left -= weights[which];
            which++;
        }
        return which;
    }
}
