/**
 * No call throws what the document does not say, for any arguments in any state: long runs of wild
 * and of fine arguments on one object. What it answers behind its 512th call is free.
 */
public final class AnyStateTest {
    private static final int RUNS = 60;
    private static final int CALLS = 3000;
    private static final int[] WILD = {
        Integer.MIN_VALUE, Integer.MIN_VALUE + 1, -1000, -9, -8, -2, -1, 0, 1, 2, 3, 4, 5, 6, 7, 8, 9, 10, 29, 30, 31,
        47, 48, 49, 50, 51, 63, 64, 99, 100, 101, 511, 512, 998, 999, 1000, 1001, 1008, 65535, Integer.MAX_VALUE - 998,
        Integer.MAX_VALUE - 1, Integer.MAX_VALUE};
    private static final String[] NAMES = {
        "boat", "lend", "foretell", "call", "cap", "pass", "storm", "ofBoat", "ofCall", "rewards", "rewardsAnew",
        "premium"};
    /** The exceptions of each method, by its place in NAMES: I index, A argument, S state. */
    private static final String[] MAY = {"IAS", "I", "IA", "IAS", "A", "AS", "IA", "IA", "IA", "I", "I", "I"};

    private long seed;
    private int answered = 0;

    private AnyStateTest(long seed) {
        this.seed = seed;
    }

    public static void main(String[] args) {
        for (int run = 0; run < RUNS; run++) {
            new AnyStateTest(run * 31L + 7).run(run);
        }
        Due.end();
    }

    private int below(int bound) {
        seed = seed * 6364136223846793005L + 1442695040888963407L;
        return (int) ((seed >>> 33) % bound);
    }

    private int wild() {
        return below(3) == 0 ? WILD[below(WILD.length)] : below(12);
    }

    private void run(int run) {
        Rescuemarket market = new Rescuemarket();
        for (int i = 0; i < CALLS; i++) {
            int which = below(NAMES.length);
            int[] a = {wild(), wild(), wild(), wild(), wild()};
            String outcome = Due.outcome(() -> answer(market, which, a));
            boolean fine = !outcome.startsWith("throws") || documented(outcome, MAY[which]);
            if (!fine) {
                Due.is("run " + run + ", call " + i + ", " + NAMES[which] + java.util.Arrays.toString(a),
                        "no such exception", outcome);
            }
            answered += outcome.startsWith("throws") ? 0 : 1;
        }
        Due.is("run " + run + " has calls that are answered", true, answered > CALLS / 5);
    }

    private static boolean documented(String outcome, String may) {
        return may.contains("I") && outcome.equals("throws " + Due.NO_SUCH.getName())
                || may.contains("A") && outcome.equals("throws " + Due.BAD_ARGUMENT.getName())
                || may.contains("S") && outcome.equals("throws " + Due.BAD_STATE.getName());
    }

    private static Object answer(Rescuemarket market, int which, int[] a) {
        switch (NAMES[which]) {
            case "boat": return market.boat(a[0], a[1], a[2], a[3], a[4]);
            case "lend": return market.lend(a[0], a[1]);
            case "foretell": return market.foretell(a[0], a[1], a[2], a[3], a[4]);
            case "call": return market.call(a[0], a[1], a[2]);
            case "cap": return market.cap(a[0]);
            case "pass": return market.pass(a[0]);
            case "storm": return market.storm(a[0], a[1]);
            case "ofBoat": return market.ofBoat(a[0], a[1]);
            case "ofCall": return market.ofCall(a[0], a[1]);
            case "rewards": return market.rewards(a[0]);
            case "rewardsAnew": return market.rewardsAnew(a[0]);
            default: return market.premium(a[0]);
        }
    }
}
