import java.util.Arrays;
import java.util.Random;

/** Long runs of calls, each answer against the one of the PlainVault; the seeds are fixed. */
final class RandomRunsTest {
    private static final int RUNS = 800;
    /** Two calls each, so that a vault is used for 512. */
    private static final int STEPS = 256;
    private static final String[] NAMES = {
        "put", "put", "put", "put", "mark", "mark", "erase", "erase", "retain", "hold", "hold", "rule",
        "unrule", "fetch", "fetch", "read", "tick", "tick", "tick", "current", "about", "about", "entry",
        "link", "figure"};
    private static final int[] ODD = {Integer.MIN_VALUE, -2, -1, 41, 64, 10001, 1000001, Integer.MAX_VALUE};

    private final Random random;
    private final RetentionVault vault = new RetentionVault();
    private final PlainVault plain = new PlainVault();
    private final boolean crowded;
    private int lastFetched;
    private final StringBuilder told = new StringBuilder();

    private RandomRunsTest(long seed) {
        random = new Random(seed);
        crowded = seed % 3 == 0;
    }

    public static void main(String[] args) {
        for (int seed = 0; seed < RUNS; seed++) {
            int s = seed;
            Checks.due("run " + seed, 1, () -> new RandomRunsTest(s).isRight() ? 1 : 0);
        }
        Checks.end();
    }

    private boolean isRight() {
        for (int i = 0; i < STEPS; i++) {
            String name = NAMES[random.nextInt(NAMES.length)];
            if (crowded && (name.equals("erase") || name.equals("tick")) && random.nextInt(3) > 0) {
                name = "put";
            }
            if (!agree(name, arguments(name))) {
                return false;
            }
            if (!lookedAt(i)) {
                return false;
            }
        }
        return true;
    }

    private boolean lookedAt(int step) {
        switch (step % 4) {
            case 0: return agree("link");
            case 1: return agree("figure", random.nextInt(6));
            case 2: return agree("read", lastFetched);
            default: return agree("about", someVersion(), random.nextInt(8));
        }
    }

    private boolean agree(String name, int... a) {
        String want = told(() -> plain.answer(name, a));
        String got = told(() -> ask(name, a));
        told.append(name).append(Arrays.toString(a)).append(' ').append(got).append('\n');
        if (got.equals(want)) {
            return true;
        }
        System.out.println(told + "due was " + want);
        return false;
    }

    private static String told(Checks.Call call) {
        try {
            return Long.toString(call.answer());
        } catch (RuntimeException e) {
            return e.getClass().getName();
        }
    }

    private int within(int least, int most) {
        return random.nextInt(40) == 0 ? ODD[random.nextInt(ODD.length)]
                : random.nextInt(12) == 0 ? (random.nextBoolean() ? least : most)
                : least + random.nextInt(most - least + 1);
    }

    private int someVersion() {
        int put = (int) plain.answer("figure", 2);
        return random.nextInt(30) == 0 ? within(-2, 600) : Math.max(0, put - 1 - random.nextInt(30));
    }

    private int key() {
        return random.nextInt(50) == 0 ? within(-1000, 1000) : random.nextInt(crowded ? 9 : 4) - 1;
    }

    private int days(int most) {
        return random.nextInt(5) == 0 ? within(0, most) : random.nextInt(6);
    }

    private int bit() {
        return random.nextInt(2);
    }

    private int[] arguments(String name) {
        switch (name) {
            case "put": return new int[] {key(), within(1, 1000000), within(0, 3)};
            case "mark": case "current": return new int[] {key()};
            case "erase": return new int[] {someVersion(), bit()};
            case "retain": return new int[] {someVersion(), days(10000), bit()};
            case "hold": return new int[] {someVersion(), within(0, 7), bit()};
            case "rule": return new int[] {within(0, 5), within(-1, 3), bit(), days(100), within(1, 4)};
            case "unrule": return new int[] {within(0, 5)};
            case "fetch": return new int[] {someVersion(), 1 + days(99)};
            case "read": return new int[] {someVersion()};
            case "tick": return new int[] {random.nextInt(60) == 0 ? within(0, 1000) : random.nextInt(4)};
            case "about": return new int[] {someVersion(), within(0, 7)};
            case "entry": return new int[] {within(0, 63), within(0, 3)};
            case "figure": return new int[] {within(0, 5)};
            default: return new int[0];
        }
    }

    private int fetch(int version, int days) {
        int from = vault.fetch(version, days);
        lastFetched = version;
        return from;
    }

    private long ask(String name, int... a) {
        RetentionVault v = vault;
        switch (name) {
            case "put": return v.put(a[0], a[1], a[2]);
            case "mark": return v.mark(a[0]);
            case "erase": return v.erase(a[0], a[1] == 1);
            case "retain": v.retain(a[0], a[1], a[2] == 1); return 0;
            case "hold": return v.hold(a[0], a[1], a[2] == 1) ? 1 : 0;
            case "rule": v.rule(a[0], a[1], a[2] == 1, a[3], a[4]); return 0;
            case "unrule": return v.unrule(a[0]) ? 1 : 0;
            case "fetch": return fetch(a[0], a[1]);
            case "read": return v.read(a[0]);
            case "tick": return v.tick(a[0]);
            case "current": return v.current(a[0]);
            case "about": return v.about(a[0], a[1]);
            case "entry": return v.entry(a[0], a[1]);
            case "link": return v.link();
            case "figure": return v.figure(a[0]);
            default: throw new AssertionError(name);
        }
    }
}
