import java.util.Random;
import java.util.TreeMap;

/** Long runs of calls, the same ones each time, whose answers are held against the plain model. */
public final class RandomRunsTest {
    private static final int RUNS = 4000;
    private static final int CALLS = 434;
    private static final int[] ODD_NUMBERS = {-1, 2, 32, 33, -32, Integer.MIN_VALUE, Integer.MAX_VALUE};
    private static final String[] NAMES = {
        "write", "deliver", "store", "copy", "barrier", "connect", "promote", "demote", "restart", "crash",
        "cut", "discard", "fate", "state", "generation", "map", "log", "traffic", "disk"};
    private static final int[] WEIGHTS = {60, 120, 60, 30, 10, 15, 10, 4, 15, 2, 3, 2, 5, 5, 5, 5, 5, 5, 5};

    private static final Check check = new Check("random runs");
    private static final TreeMap<String, Integer> seen = new TreeMap<>();

    private final Random random;
    private final TwinVolume real = new TwinVolume();
    private final PlainModel model = new PlainModel();
    private final int[] weights = new int[NAMES.length];
    private final int[] favour = new int[NAMES.length];
    private final int blocks;
    private int accepted = 0;
    private final StringBuilder history = new StringBuilder();
    private boolean same = true;

    private RandomRunsTest(long seed) {
        random = new Random(seed);
        blocks = 1 << 1 + random.nextInt(5);
        // Each run has a character of its own, so that states which need many like calls are met too.
        for (int k = 0; k < NAMES.length; k++) {
            weights[k] = WEIGHTS[k] * (1 << random.nextInt(4));
            favour[k] = 20 + 30 * random.nextInt(3);
        }
    }

    public static void main(String[] args) {
        int wrongRuns = 0;
        for (int run = 0; run < RUNS && wrongRuns < 3; run++) {
            if (!new RandomRunsTest(run).run()) {
                wrongRuns++;
            }
        }
        if (wrongRuns == 0) {
            reachedEnough();
        }
        check.end();
    }

    private boolean run() {
        for (int k = 0; k < CALLS && same; k++) {
            int choice = choose();
            call(NAMES[choice], node(favour[choice]), random.nextInt(blocks), random.nextInt(1000));
        }
        for (int k = 0; k < 78 && same; k++) {
            readAll(k);
        }
        if (!same) {
            System.out.println("the run was:\n" + history);
        }
        return same;
    }

    /** What 78 calls can tell of an object's state at the end of a run. */
    private void readAll(int k) {
        if (k < 64) {
            call("disk", k % 2, k / 2, 0);
        } else {
            String[] names = {"state", "generation", "map", "traffic", "log", "log", "log"};
            call(names[(k - 64) / 2], k % 2, 0, (k - 64) / 2 - 4);
        }
    }

    private int choose() {
        int sum = 0;
        for (int weight : weights) {
            sum += weight;
        }
        int left = random.nextInt(sum);
        int choice = 0;
        while (left >= weights[choice]) {
            left -= weights[choice];
            choice++;
        }
        return choice;
    }

    private int node(int favourOfOne) {
        return random.nextInt(60) == 0 ? odd() : random.nextInt(100) < favourOfOne ? 1 : 0;
    }

    private int odd() {
        return ODD_NUMBERS[random.nextInt(ODD_NUMBERS.length)];
    }

    private void call(String name, int node, int block, int value) {
        if (random.nextInt(80) == 0) {
            block = odd();
        }
        // Four places are enough for a LOG, and few epochs have more writes waiting.
        int k = value >= 990 ? odd() : value < 10 ? value : value % 4 % 3;
        int number = value >= 990 ? odd() : value % (accepted + 2);
        switch (name) {
            case "write" -> same(name, node, block, value);
            case "store", "log" -> same(name, node, k);
            case "disk" -> same(name, node, block);
            case "fate" -> same(name, number);
            case "connect", "cut" -> same(name);
            default -> same(name, node);
        }
    }

    private void same(String name, int... arguments) {
        long got = Calls.real(real, name, arguments);
        long want = Calls.model(model, name, arguments);
        String call = Calls.text(name, arguments);
        history.append(call).append(" -> ").append(want).append('\n');
        check.due(call, got, want);
        same = got == want;
        accepted += name.equals("write") && want > 0 ? 1 : 0;
        seen.merge(name + " " + kind(name, want), 1, Integer::sum);
    }

    private static String kind(String name, long answer) {
        boolean counted = name.equals("write") || name.equals("store") || name.equals("copy");
        boolean free = name.equals("disk") || name.equals("generation") || name.equals("map")
                || name.equals("traffic");
        return free ? "any" : counted && answer > 0 ? "some" : Long.toString(answer);
    }

    /** Runs that never come to the rare answers would hold nothing against the model there. */
    private static void reachedEnough() {
        String[] needed = {
            "write -1", "write -2", "write -3", "write -4", "write -5", "write some", "barrier 0", "barrier 1",
            "deliver 0", "deliver 1", "deliver 2", "deliver 3", "deliver 4", "deliver 5", "store 0", "store some",
            "copy -1", "copy some", "connect -2", "connect -7", "connect -8", "connect -9", "connect -10",
            "connect 0", "connect 1", "connect 2", "cut 0", "cut 1", "crash 0", "crash 1", "restart 0", "restart 1",
            "promote -1", "promote -2", "promote -6", "promote -7", "promote 0", "demote -1", "demote -2",
            "demote -3", "demote -5", "demote 0", "discard 0", "discard 1", "fate 0", "fate 1", "fate 2", "fate 3",
            "fate 4", "state -1", "log -1", "log 7"};
        for (String kind : needed) {
            check.due(kind + " is reached often", seen.getOrDefault(kind, 0) >= 50, true);
        }
    }
}
