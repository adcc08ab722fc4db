import java.util.Random;

/** All promises at once: long runs of calls, good and wrong ones, against PlainDesk; the seeds are fixed. */
public final class RunsTest {
    private static final String[] TOLD = {"rank", "fight", "fight", "end", "replay", "camera", "delay", "pass", "pass",
        "pass", "blow", "blow", "blow", "strike", "mend", "promise", "slot"};
    private static final String[] ASKED = {"frame", "shown", "shown", "seen", "points", "overlay", "fightOf",
        "cameraOf", "cameraOf", "counted", "countedAnew", "owed", "leader"};
    private static final int[] ODD = {-1, -2, 10, 6, 20, 80, 100, 101, 200, 201, 1000, 1001, 3000, 61, 60,
        Integer.MAX_VALUE, Integer.MIN_VALUE};

    private final Random random;
    private final Caller desk = new Caller();
    private final PlainDesk plain = new PlainDesk();
    private final int longestPass;
    private final int staminas;
    private final int oddOneOf;
    private final StringBuilder told = new StringBuilder();

    private RunsTest(int seed) {
        random = new Random(seed);
        longestPass = seed % 4 == 0 ? 200 : seed % 4 == 1 ? 40 : 6;
        staminas = seed % 3 == 0 ? 60 : 4;
        oddOneOf = 5 + random.nextInt(30);
    }

    public static void main(String[] args) {
        Check.test("all promises: runs of calls", () -> {
            for (int seed = 0; seed < 1500; seed++) {
                new RunsTest(seed).run(seed);
            }
        });
        Check.end();
    }

    private void run(int seed) {
        int asked = 20 + random.nextInt(60);
        for (int i = 0; i < Caller.MOST_CALLS; i++) {
            String name = random.nextInt(100) < asked ? one(ASKED) : one(TOLD);
            int[] a = arguments(name);
            String due = answer(true, name, a);
            String got = answer(false, name, a);
            if (!Check.same(due, got)) {
                Check.tell("seed " + seed + ", call " + i + ", " + name + "(" + a[0] + ", " + a[1] + ", " + a[2]
                        + ") answered " + got + ", due is " + due + " behind " + told);
                return;
            }
            told.append(name).append('(').append(a[0]).append(',').append(a[1]).append(',').append(a[2]).append(") ");
        }
    }

    private String one(String[] names) {
        return names[random.nextInt(names.length)];
    }

    private int below(int bound) {
        return random.nextInt(Math.max(1, bound));
    }

    private int[] arguments(String name) {
        int[] a = usual(name);
        if (below(oddOneOf) == 0) {
            a[below(3)] = ODD[below(ODD.length)];
        }
        return a;
    }

    private int[] usual(String name) {
        int fight = below(12);
        int player = below(10);
        switch (name) {
            case "rank": return new int[] {player, below(30), 0};
            case "fight": return new int[] {player, below(10), 0};
            case "camera": return new int[] {1 + below(staminas), below(staminas), 0};
            case "delay": return new int[] {below(30), 0, 0};
            case "pass": return new int[] {1 + below(longestPass), 0, 0};
            case "blow": return new int[] {fight, ofFight(fight), 1 + below(9)};
            case "strike": return new int[] {below(80), 0, 0};
            case "mend": return new int[] {below(80), 1 + below(9), 0};
            case "promise": return new int[] {below(6), below(longestPass * 5), 0};
            case "slot": return new int[] {below(6), player, 0};
            case "shown": return new int[] {below(plain.call("frame", 0, 0, 0)), below(3), 0};
            case "points": case "overlay": return new int[] {fight, ofFight(fight), 0};
            case "fightOf": return new int[] {fight, below(5), 0};
            case "cameraOf": return new int[] {below(6), below(2), 0};
            case "leader": return new int[] {player, 0, 0};
            case "counted": case "countedAnew": case "owed": return new int[] {below(6), 0, 0};
            default: return new int[] {fight, 0, 0};
        }
    }

    /** Mostly one of both, so that blows are logged. */
    private int ofFight(int fight) {
        if (below(8) == 0) {
            return below(10);
        }
        String player = answer(true, "fightOf", new int[] {fight, 1 + below(2), 0});
        return player.length() == 1 ? player.charAt(0) - '0' : below(10);
    }

    private String answer(boolean isDue, String name, int[] a) {
        if (!isDue) {
            return desk.answer(name, a);
        }
        try {
            return "" + plain.call(name, a[0], a[1], a[2]);
        } catch (RuntimeException e) {
            return Caller.thrown(e);
        }
    }
}
