/** Many runs of 512 calls, the same ones every time, against the model. */
public final class ModelTest {
    private static final int RUNS = 4000;
    private static final int CALLS = 512;
    private static final String[] QUESTIONS = {"storm", "ofBoat", "ofCall", "rewards", "rewardsAnew", "premium"};
    private static final int[] WILD = {Integer.MIN_VALUE, Integer.MAX_VALUE, -1, 1000, 48, 101, 51, 10, 30, 6, 4, 3, 0};

    private long seed;
    private int now = 0;
    private int boats = 0;
    private int calls = 0;

    private ModelTest(long seed) {
        this.seed = seed * 7919 + 17;
    }

    public static void main(String[] args) {
        int wrong = 0;
        for (int run = 0; run < RUNS && wrong < 10; run++) {
            wrong += new ModelTest(run).run(run) ? 0 : 1;
        }
        Due.is("runs that went wrong", 0, wrong);
        Due.end();
    }

    private int below(int bound) {
        seed = seed * 6364136223846793005L + 1442695040888963407L;
        return (int) ((seed >>> 33) % bound);
    }

    private int within(int least, int most) {
        return least + below(most - least + 1);
    }

    private boolean run(int run) {
        Rescuemarket market = new Rescuemarket();
        Model model = new Model();
        StringBuilder story = new StringBuilder();
        for (int i = 0; i < CALLS; i++) {
            String name = nextName(run);
            int[] args = argsOf(name, run);
            if (below(40) == 0) {
                args[below(args.length)] = WILD[below(WILD.length)];
            }
            String due = model.answer(name, args);
            String got = Due.outcome(() -> answer(market, name, args));
            story.append(name).append(java.util.Arrays.toString(args)).append(" -> ").append(due).append('\n');
            note(name, due);
            if (!due.equals(got)) {
                System.out.println("run " + run + ", call " + i + " answered " + got + "\n" + story);
                return false;
            }
        }
        return true;
    }

    private void note(String name, String answer) {
        if (!answer.startsWith("throws")) {
            boats += name.equals("boat") ? 1 : 0;
            calls += name.equals("call") ? 1 : 0;
            now = name.equals("pass") ? Integer.parseInt(answer) : now;
        }
    }

    private String nextName(int run) {
        int die = below(100);
        if (boats < 2 + run % 5 && die < 50) return "boat";
        if (die < 1) return "boat";
        if (die < 10) return "call";
        if (die < 25) return "foretell";
        if (die < 28) return "lend";
        if (die < 30) return "cap";
        if (die < 45) return "pass";
        return QUESTIONS[below(QUESTIONS.length)];
    }

    private int[] argsOf(String name, int run) {
        switch (name) {
            case "boat": return new int[] {below(3), below(48), within(1, 3), within(run % 3 * 10 + 1, 40), within(run % 10, 9)};
            case "lend": return new int[] {below(boats + 1), below(3)};
            case "foretell": return foretelling();
            case "call": return new int[] {below(48), within(1, 50), now + within(1, 25)};
            case "cap": return new int[] {within(0, 400)};
            case "pass": return new int[] {below(15) == 0 ? within(1, 48) : within(1, 3 + run % 4)};
            case "storm": return new int[] {below(48), below(2) == 0 ? within(now, now + 40) : within(now, 999)};
            case "ofBoat": return new int[] {below(boats + (below(9) == 0 ? 1 : 0) + (boats == 0 ? 1 : 0)), below(4)};
            case "ofCall": return new int[] {below(calls + (below(9) == 0 ? 1 : 0) + (calls == 0 ? 1 : 0)), below(4)};
            case "premium": return new int[] {below(48)};
            default: return new int[] {below(3)};
        }
    }

    private int[] foretelling() {
        int from = below(48);
        int to = from / 8 * 8 + below(6 - from / 8) * 8 + from % 8 + below(8 - from % 8);
        int first = now + within(0, 12);
        int last = below(10) == 0 ? 999 : first + within(0, 20);
        return new int[] {from, to, first, last, below(2) == 0 ? 0 : within(0, 9)};
    }

    private static Object answer(Rescuemarket market, String name, int[] a) {
        switch (name) {
            case "boat": return market.boat(a[0], a[1], a[2], a[3], a[4]);
            case "lend": return market.lend(a[0], a[1]);
            case "foretell": return market.foretell(a[0], a[1], a[2], a[3], a[4]);
            case "call": return market.call(a[0], a[1], a[2]);
            case "cap": return market.cap(a[0]);
            case "pass": return market.pass(a[0]);
            case "storm": return market.storm(a[0], a[1]);
            case "ofBoat": return market.ofBoat(a[0], a[1]);
            case "ofCall": return market.ofCall(a[0], a[1]);
            case "rewards": return market.rewards(a[0]);
            case "rewardsAnew": return market.rewardsAnew(a[0]);
            default: return market.premium(a[0]);
        }
    }
}
