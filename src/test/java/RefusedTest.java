/**
 * A call of a method that throws changes nothing: in each of some states each call is made with all arguments about its
 * bounds, PlainDesk says which of them are due to be refused, and a desk that refused one has to be as one that was
 * never asked. Queries, too, change nothing, however often they are asked.
 */
public final class RefusedTest {
    private static final int LEAST = Integer.MIN_VALUE;
    private static final int MOST = Integer.MAX_VALUE;

    private static final int[] PLAYERS = {LEAST, -1, 0, 1, 2, 8, 9, 10, 32, MOST};
    private static final int[] RANKS = {LEAST, -1, 0, 99, 100, MOST};
    private static final int[] FIGHTS = {LEAST, -1, 0, 1, 2, 3, 18, 19, 20, MOST};
    private static final int[] STAMINAS = {LEAST, -1, 0, 1, 60, 61, MOST};
    private static final int[] RESTS = {LEAST, -1, 0, 60, 61, MOST};
    private static final int[] DELAYS = {LEAST, -1, 0, 100, 101, MOST};
    private static final int[] PASSES = {LEAST, -1, 0, 1, 2, 200, 201, 3000, 3001, MOST};
    private static final int[] POINTS = {LEAST, -1, 0, 1, 9, 10, MOST};
    private static final int[] ENTRIES = {LEAST, -1, 0, 1, 2, 78, 79, 80, MOST};
    private static final int[] SPONSORS = {LEAST, -1, 0, 1, 5, 6, MOST};
    private static final int[] PROMISES = {LEAST, -1, 0, 1000, 1001, MOST};
    private static final int[] FRAMES = {LEAST, -1, 0, 29, 30, 31, 2998, 2999, 3000, 3001, MOST};
    private static final int[] WHATS = {LEAST, -1, 0, 1, 2, 3, 4, 5, MOST};
    private static final int[] CAMERAS = {LEAST, -1, 0, 1, 5, 6, MOST};
    private static final int[] ONE = {0};

    private static final String BUSY = "camera 4 3; camera 2 0; rank 0 5; rank 3 9; promise 0 7; promise 1 40; slot 0 0; "
            + "slot 1 1; slot 1 8; delay 4; fight 0 1; blow 0 0 3; blow 0 1 5; pass 5; end 0; replay 0; fight 8 9; "
            + "blow 2 9 4; blow 2 8 2; strike 3; pass 9; end 2; fight 2 3; blow 1 1 7; blow 3 2 1; mend 4 6; pass 16; ";

    private static final String[] NAMES = {"new", "busy", "nineteen fights", "twenty fights", "twenty fights, all over",
        "six cameras", "eighty entries", "twelve slots", "frame 2999", "frame 3000"};
    private static final String[] STATES = {
        "",
        BUSY,
        BUSY + "blow 3 2 1; " + Script.each(4, 18, "fight 4 5 = #; end #"),
        BUSY + Script.each(4, 18, "fight 4 5 = #; end #") + "fight 4 5 = 19; ",
        BUSY + "end 1; end 3; " + Script.each(4, 19, "fight 0 2 = #; end #"),
        BUSY + "camera 1 1; camera 60 60; camera 7 7; camera 1 0 = 5; pass 3; ",
        "fight 0 1; fight 8 9; fight 2 3; camera 60 0; " + Script.each(0, 78, "blow 0 0 1 = #")
            + "blow 1 8 9 = 79; end 1; pass 7; ",
        BUSY + "slot 2 0; slot 2 1; slot 2 2; slot 3 0; slot 3 1; slot 4 9; slot 5 8; slot 5 9; slot 5 2 = 12; "
            + "pass 2; ",
        BUSY + Script.each(1, 14, "pass 200") + "pass 169 = 2999; ",
        BUSY + Script.each(1, 14, "pass 200") + "pass 170 = 3000; "};

    private final String recipe;
    private PlainDesk plain;
    private int refused = 0;

    private RefusedTest(String recipe) {
        this.recipe = recipe;
        plain = plainDesk();
    }

    public static void main(String[] args) {
        for (int i = 0; i < STATES.length; i++) {
            String recipe = STATES[i];
            Check.test("refused calls, " + NAMES[i], () -> new RefusedTest(recipe).everyCall());
            Check.test("queries, " + NAMES[i], () -> queriesChangeNothing(recipe));
        }
        Check.end();
    }

    private void everyCall() {
        calls("rank", PLAYERS, RANKS, ONE);
        calls("fight", PLAYERS, PLAYERS, ONE);
        calls("end", FIGHTS, ONE, ONE);
        calls("replay", FIGHTS, ONE, ONE);
        calls("camera", STAMINAS, RESTS, ONE);
        calls("delay", DELAYS, ONE, ONE);
        calls("pass", PASSES, ONE, ONE);
        calls("blow", FIGHTS, PLAYERS, POINTS);
        calls("strike", ENTRIES, ONE, ONE);
        calls("mend", ENTRIES, POINTS, ONE);
        calls("promise", SPONSORS, PROMISES, ONE);
        calls("slot", SPONSORS, PLAYERS, ONE);
        calls("shown", FRAMES, WHATS, ONE);
        calls("points", FIGHTS, PLAYERS, ONE);
        calls("overlay", FIGHTS, PLAYERS, ONE);
        calls("fightOf", FIGHTS, WHATS, ONE);
        calls("cameraOf", CAMERAS, WHATS, ONE);
        calls("counted", SPONSORS, ONE, ONE);
        calls("countedAnew", SPONSORS, ONE, ONE);
        calls("owed", SPONSORS, ONE, ONE);
        calls("leader", PLAYERS, ONE, ONE);
        Check.due("some calls were refused", 1, refused > 500 ? 1 : 0);
    }

    private void calls(String name, int[] first, int[] second, int[] third) {
        for (int a : first) {
            for (int b : second) {
                for (int c : third) {
                    oneCall(name, a, b, c);
                }
            }
        }
    }

    private void oneCall(String name, int a, int b, int c) {
        String call = name + "(" + a + ", " + b + ", " + c + ")";
        String due = dueOf(name, a, b, c);
        Caller told = desk(recipe);
        String got = told.answer(name, a, b, c);
        if (!Check.same(due, got)) {
            Check.tell(call + " answered " + got + ", due is " + due);
        }
        if (Caller.isRefused(got)) {
            refused++;
            Script.compare(call + " was refused, but changed something", told, desk(recipe));
            Script.checkLength(told);
        }
    }

    private String dueOf(String name, int a, int b, int c) {
        try {
            int due = plain.call(name, a, b, c);
            plain = plainDesk();
            return "" + due;
        } catch (RuntimeException e) {
            return Caller.thrown(e);
        }
    }

    private PlainDesk plainDesk() {
        PlainDesk made = new PlainDesk();
        for (Script.Step step : Script.steps(recipe)) {
            int[] a = step.arguments;
            made.call(step.name, a.length > 0 ? a[0] : 0, a.length > 1 ? a[1] : 0, a.length > 2 ? a[2] : 0);
        }
        return made;
    }

    private static Caller desk(String recipe) {
        Caller made = new Caller();
        for (Script.Step step : Script.steps(recipe)) {
            String got = made.answer(step.name, step.arguments);
            if (step.due != null && !step.due.equals(got) || Caller.isRefused(got)) {
                Check.tell(step.text + " answered " + got);
            }
        }
        return made;
    }

    private static void queriesChangeNothing(String recipe) {
        Caller asked = desk(recipe);
        asked.asked();
        if (!Check.same(desk(recipe).broughtToLight(), asked.broughtToLight())) {
            Check.tell("queries changed something");
        }
    }
}
