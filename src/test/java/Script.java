import java.util.ArrayList;
import java.util.List;

/**
 * Runs of calls written as text, each with the answer that is due: "rank 0 99 = 0; rank 10 0 = bounds; pass 5".
 * A run is told to a twin too, but for the calls that are refused: as these change nothing, both answer alike behind it.
 * A call without a due answer may answer anything, but not be refused.
 */
final class Script {
    static final class Step {
        final String text;
        final String name;
        final int[] arguments;
        final String due;

        Step(String text) {
            this.text = text;
            String[] sides = text.split("=");
            String[] words = sides[0].trim().split(" +");
            name = words[0];
            arguments = new int[words.length - 1];
            for (int i = 0; i < arguments.length; i++) {
                arguments[i] = number(words[i + 1]);
            }
            due = sides.length > 1 ? answer(sides[1].trim()) : null;
        }

        private static int number(String word) {
            switch (word) {
                case "least": return Integer.MIN_VALUE;
                case "most": return Integer.MAX_VALUE;
                default: return Integer.parseInt(word);
            }
        }

        private static String answer(String word) {
            switch (word) {
                case "none": return "" + Castdesk.NONE;
                case "bounds": return "throws.IndexOutOfBoundsException";
                case "argument": return "throws.IllegalArgumentException";
                case "state": return "throws.IllegalStateException";
                default: return "" + Integer.parseInt(word);
            }
        }
    }

    private Script() {
    }

    static List<Step> steps(String... parts) {
        List<Step> steps = new ArrayList<>();
        for (String text : String.join(";", parts).split(";")) {
            if (!text.isBlank()) {
                steps.add(new Step(text.trim()));
            }
        }
        return steps;
    }

    /** The text once for each number from one up to another, which stands in for each #. */
    static String each(int from, int upTo, String text) {
        StringBuilder all = new StringBuilder();
        for (int number = from; number <= upTo; number++) {
            all.append(text.replace("#", "" + number)).append("; ");
        }
        return all.toString();
    }

    static void run(String... parts) {
        Caller told = new Caller();
        Caller twin = new Caller();
        boolean refused = false;
        for (Step step : steps(parts)) {
            String got = told.answer(step.name, step.arguments);
            if (Caller.isRefused(got)) {
                refused = true;
            } else {
                twin.answer(step.name, step.arguments);
            }
            boolean fine = step.due == null ? !Caller.isRefused(got) : Check.same(step.due, got);
            if (!fine) {
                Check.tell("call " + told.calls() + ", " + step.text + ", answered " + got);
            }
        }
        if (refused) {
            compare("the refused calls changed something", told, twin);
        }
        checkLength(told);
    }

    static void compare(String fault, Caller told, Caller twin) {
        String due = twin.asked() + twin.broughtToLight();
        String got = told.asked() + told.broughtToLight();
        if (!Check.same(due, got)) {
            Check.tell(fault + ": " + difference(due, got));
        }
    }

    private static String difference(String due, String got) {
        String[] dues = due.split("; ");
        String[] gots = got.split("; ");
        int i = 0;
        while (i < dues.length - 1 && i < gots.length - 1 && dues[i].equals(gots[i])) {
            i++;
        }
        return gots[i] + ", due is " + dues[i];
    }

    /** What is answered behind the 512th call is free, so no test may lean on it. */
    static void checkLength(Caller told) {
        if (told.calls() > Caller.MOST_CALLS) {
            Check.tell("the run has " + told.calls() + " calls");
        }
    }
}
