/** A Castdesk that is called by name, with its answers as text; it counts its calls, of which there are 512. */
final class Caller {
    static final int MOST_CALLS = 512;

    private final Castdesk desk = new Castdesk();
    private int calls = 0;

    int calls() {
        return calls;
    }

    String answer(String name, int... a) {
        calls++;
        try {
            return "" + call(name, a.length > 0 ? a[0] : 0, a.length > 1 ? a[1] : 0, a.length > 2 ? a[2] : 0);
        } catch (RuntimeException e) {
            return thrown(e) + (Check.thrownByCastdesk(e) ? "" : " by the machine");
        }
    }

    static String thrown(RuntimeException e) {
        return "throws." + e.getClass().getSimpleName();
    }

    static boolean isRefused(String answer) {
        return answer.startsWith("throws.");
    }

    private int call(String name, int a, int b, int c) {
        switch (name) {
            case "rank": return desk.rank(a, b);
            case "fight": return desk.fight(a, b);
            case "end": return desk.end(a);
            case "replay": return desk.replay(a);
            case "camera": return desk.camera(a, b);
            case "delay": return desk.delay(a);
            case "pass": return desk.pass(a);
            case "blow": return desk.blow(a, b, c);
            case "strike": return desk.strike(a);
            case "mend": return desk.mend(a, b);
            case "promise": return desk.promise(a, b);
            case "slot": return desk.slot(a, b);
            case "frame": return desk.frame();
            case "shown": return desk.shown(a, b);
            case "seen": return desk.seen();
            case "points": return desk.points(a, b);
            case "overlay": return desk.overlay(a, b);
            case "fightOf": return desk.fightOf(a, b);
            case "cameraOf": return desk.cameraOf(a, b);
            case "counted": return desk.counted(a);
            case "countedAnew": return desk.countedAnew(a);
            case "owed": return desk.owed(a);
            case "leader": return desk.leader(a);
            default: throw new AssertionError(name);
        }
    }

    /** What can be asked, a call and its answer behind the other. */
    String asked() {
        StringBuilder text = new StringBuilder();
        put(text, "frame");
        put(text, "seen");
        for (int fight = 0; !isRefused(answer("fightOf", fight, 0)); fight++) {
            for (int what = 0; what <= 4; what++) {
                put(text, "fightOf", fight, what);
            }
            for (int side = 1; side <= 2; side++) {
                int player = Integer.parseInt(answer("fightOf", fight, side));
                put(text, "points", fight, player);
                put(text, "overlay", fight, player);
            }
        }
        for (int camera = 0; !isRefused(answer("cameraOf", camera, 0)); camera++) {
            put(text, "cameraOf", camera, 0);
            put(text, "cameraOf", camera, 1);
        }
        for (int sponsor = 0; sponsor <= 5; sponsor++) {
            put(text, "counted", sponsor);
            put(text, "countedAnew", sponsor);
            put(text, "owed", sponsor);
        }
        for (int place = 0; place <= 9; place++) {
            put(text, "leader", place);
        }
        int now = Integer.parseInt(answer("frame"));
        for (int frame = Math.max(0, now - 3); frame < now; frame++) {
            putShown(text, frame);
        }
        return text.toString();
    }

    /** What cannot be asked, brought to light by calls that tell: ranks, the delay, promises, slots, heat, points. */
    String broughtToLight() {
        StringBuilder text = new StringBuilder();
        put(text, "delay", 0);
        put(text, "seen");
        for (int player = 0; player <= 9; player++) {
            put(text, "rank", player, 0);
        }
        put(text, "camera", 60, 0);
        for (int sponsor = 0; sponsor <= 5; sponsor++) {
            put(text, "promise", sponsor, 0);
        }
        for (int sponsor = 0; sponsor <= 5; sponsor++) {
            putFrameFor(text, sponsor);
        }
        // Behind the frames: one that is refused, but told all the same, would be told to the twin here too.
        for (int sponsor = 0; sponsor <= 5; sponsor++) {
            for (int player = 0; player <= 2; player++) {
                put(text, "slot", sponsor, player);
            }
        }
        putFights(text);
        for (int entry = 0; entry < 6; entry++) {
            put(text, "strike", entry);
        }
        return text.toString();
    }

    private void putShown(StringBuilder text, int frame) {
        for (int what = 0; what <= 2; what++) {
            put(text, "shown", frame, what);
        }
    }

    /** A frame in which this sponsor alone is owed something, so that it counts for it if it has a slot. */
    private void putFrameFor(StringBuilder text, int sponsor) {
        answer("promise", sponsor, 1000);
        String now = put(text, "pass", 1);
        if (!isRefused(now)) {
            putShown(text, Integer.parseInt(now) - 1);
        }
        answer("promise", sponsor, 0);
    }

    private void putFights(StringBuilder text) {
        for (int fight = 0; !isRefused(answer("fightOf", fight, 0)); fight++) {
            if (answer("fightOf", fight, 0).equals("" + Castdesk.GOING)) {
                put(text, "blow", fight, Integer.parseInt(answer("fightOf", fight, 1)), 1);
                put(text, "end", fight);
            }
        }
        put(text, "replay", 0);
    }

    private String put(StringBuilder text, String name, int... a) {
        String answer = answer(name, a);
        text.append(name);
        for (int argument : a) {
            text.append(' ').append(argument);
        }
        text.append(" = ").append(answer).append("; ");
        return answer;
    }
}
