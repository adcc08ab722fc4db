import java.io.IOException;
import java.nio.file.Files;
import java.nio.file.Path;

/** Compares answers with those that are due, and ends the program with exit code 1 if one was wrong. */
final class Check {
    interface Call {
        int answer();
    }

    interface Body {
        void run();
    }

    private static String test = "";
    private static int looked = 0;
    private static int wrong = 0;

    private Check() {
    }

    static void test(String name, Body body) {
        test = name;
        int before = looked;
        body.run();
        if (looked == before) {
            tell("looked at nothing");
        }
    }

    static void due(int want, int got) {
        due("an answer", want, got);
    }

    static void due(String call, int want, int got) {
        looked++;
        if (want != got) {
            tell(call + " answered " + got + ", due is " + want);
        }
    }

    /** For those who tell the fault themselves. */
    static boolean same(String want, String got) {
        looked++;
        return want.equals(got);
    }

    static void outOfBounds(Call call) {
        refused(IndexOutOfBoundsException.class, call);
    }

    static void badArgument(Call call) {
        refused(IllegalArgumentException.class, call);
    }

    static void badState(Call call) {
        refused(IllegalStateException.class, call);
    }

    /** Whether a statement of Castdesk's own threw, and not the machine or the library below it. */
    static boolean thrownByCastdesk(RuntimeException e) {
        StackTraceElement[] trace = e.getStackTrace();
        return trace.length > 0 && trace[0].getClassName().startsWith("Castdesk");
    }

    /** The class is compared, not instanceof: an exception that the machine throws is a class below. */
    private static void refused(Class<? extends RuntimeException> due, Call call) {
        looked++;
        try {
            int got = call.answer();
            tell("answered " + got + ", due is " + due.getSimpleName());
        } catch (RuntimeException e) {
            if (e.getClass() != due || !thrownByCastdesk(e)) {
                tell("threw " + e + ", due is " + due.getSimpleName());
            }
        }
    }

    static String read(Path file) {
        try {
            return Files.readString(file);
        } catch (IOException e) {
            tell("cannot read " + file + ": " + e);
            return "";
        }
    }

    static void tell(String fault) {
        wrong++;
        StackTraceElement[] trace = new Throwable().getStackTrace();
        String place = "";
        for (int i = 0; i < trace.length && place.isEmpty(); i++) {
            if (!trace[i].getClassName().equals("Check") && !trace[i].getClassName().equals("Script")) {
                place = " (" + trace[i].getFileName() + ":" + trace[i].getLineNumber() + ")";
            }
        }
        System.out.println(test + ": " + fault + place);
    }

    static void end() {
        System.out.println(wrong == 0 ? looked + " answers are as due" : wrong + " of " + looked + " are wrong");
        if (wrong != 0) {
            System.exit(1);
        }
    }
}
