import java.lang.reflect.Constructor;
import java.lang.reflect.Field;
import java.lang.reflect.Member;
import java.lang.reflect.Method;
import java.lang.reflect.Modifier;
import java.nio.file.Path;
import java.util.ArrayList;
import java.util.Arrays;
import java.util.List;
import java.util.TreeSet;

/** The public face of the document, and those rules of LANGUAGE.md that are seen without running anything. */
public final class FaceTest {
    private static final Path SOURCE = Path.of("src/main/java/Castdesk.java");

    private static final String B = "IndexOutOfBoundsException";
    private static final String A = "IllegalArgumentException";
    private static final String S = "IllegalStateException";

    private static final String[] FACE = {
        "rank 2 " + B + " " + A, "fight 2 " + B + " " + A + " " + S, "end 1 " + B + " " + S,
        "replay 1 " + B + " " + S, "camera 2 " + A + " " + S, "delay 1 " + A, "pass 1 " + A + " " + S,
        "blow 3 " + B + " " + A + " " + S, "strike 1 " + B + " " + S, "mend 2 " + B + " " + A + " " + S,
        "promise 2 " + B + " " + A, "slot 2 " + B + " " + S, "frame 0", "shown 2 " + B + " " + A, "seen 0",
        "points 2 " + B, "overlay 2 " + B, "fightOf 2 " + B + " " + A, "cameraOf 2 " + B + " " + A,
        "counted 1 " + B, "countedAnew 1 " + B, "owed 1 " + B, "leader 1 " + B};

    public static void main(String[] args) {
        Check.test("the class", FaceTest::theClass);
        Check.test("the methods", FaceTest::methods);
        Check.test("the constants", FaceTest::constants);
        Check.test("rule 1: nothing else is open", FaceTest::nothingElse);
        Check.test("rules 2, 4, 6, 10: what the source may not hold", FaceTest::source);
        Check.test("rule 11: sizes", FaceTest::sizes);
        Check.end();
    }

    private static void theClass() {
        int modifiers = Castdesk.class.getModifiers();
        Check.due(1, Modifier.isPublic(modifiers) && Modifier.isFinal(modifiers) ? 1 : 0);
        Constructor<?>[] made = Castdesk.class.getDeclaredConstructors();
        Check.due(1, made.length);
        Check.due(0, made[0].getParameterCount());
        Check.due(1, Modifier.isPublic(made[0].getModifiers()) ? 1 : 0);
    }

    private static void methods() {
        TreeSet<String> found = new TreeSet<>();
        for (Method method : Castdesk.class.getMethods()) {
            if (method.getDeclaringClass() == Castdesk.class) {
                found.add(described(method));
            }
        }
        TreeSet<String> due = new TreeSet<>(Arrays.asList(FACE));
        if (!Check.same(due.toString(), found.toString())) {
            Check.tell("the face is " + found + ", due is " + due);
        }
    }

    private static String described(Method method) {
        StringBuilder text = new StringBuilder(method.getName() + " " + method.getParameterCount());
        for (Class<?> thrown : method.getExceptionTypes()) {
            text.append(' ').append(thrown.getSimpleName());
        }
        boolean ints = method.getReturnType() == int.class
                && Arrays.stream(method.getParameterTypes()).allMatch(t -> t == int.class);
        return ints && !Modifier.isStatic(method.getModifiers()) ? text.toString() : text + " not of ints";
    }

    private static void constants() {
        TreeSet<String> found = new TreeSet<>();
        for (Field field : Castdesk.class.getFields()) {
            boolean constant = Modifier.isStatic(field.getModifiers()) && Modifier.isFinal(field.getModifiers());
            found.add(field.getName() + (constant && field.getType() == int.class ? "" : " is no constant"));
        }
        Check.due(1, found.equals(new TreeSet<>(Arrays.asList("NONE", "GOING", "OVER", "REPLAYED"))) ? 1 : 0);
    }

    private static void nothingElse() {
        List<Member> members = new ArrayList<>();
        members.addAll(Arrays.asList(Castdesk.class.getDeclaredMethods()));
        members.addAll(Arrays.asList(Castdesk.class.getDeclaredFields()));
        TreeSet<String> face = new TreeSet<>();
        for (Method method : Castdesk.class.getMethods()) {
            face.add(method.getName());
        }
        for (Member member : members) {
            boolean open = Modifier.isPublic(member.getModifiers());
            boolean hidden = Modifier.isPrivate(member.getModifiers());
            Check.due(member.getName() + " is public or private", 1, open || hidden ? 1 : 0);
            boolean namesake = member instanceof Method && hidden && face.contains(member.getName());
            Check.due(member.getName() + " bears a public name", 0, namesake ? 1 : 0);
            boolean shared = Modifier.isStatic(member.getModifiers()) && !(member instanceof Method);
            Check.due(member.getName() + " is shared state", 0,
                    shared && !Modifier.isFinal(member.getModifiers()) ? 1 : 0);
        }
        for (Class<?> inside : Castdesk.class.getDeclaredClasses()) {
            boolean fine = Modifier.isStatic(inside.getModifiers()) && !Modifier.isPublic(inside.getModifiers());
            Check.due(inside.getName(), 1, fine ? 1 : 0);
        }
    }

    private static void source() {
        String source = Check.read(SOURCE);
        for (String word : new String[] {"->", "::", "synchronized", "assert ", "finally", "instanceof", "catch",
            "System.", "Exact(", "import java.io", "Random", "Thread", "package "}) {
            Check.due("the source holds '" + word + "'", -1, source.indexOf(word));
        }
        for (String line : source.split("\n")) {
            boolean brought = line.startsWith("import ");
            Check.due(line, 1, !brought || line.equals("import java.util.ArrayList;") ? 1 : 0);
            Check.due("characters above 126 in: " + line, 0, line.chars().allMatch(c -> c <= 126) ? 0 : 1);
        }
    }

    private static void sizes() {
        Check.due(1, Castdesk.class.getDeclaredClasses().length <= 11 ? 1 : 0);
        int fields = 0;
        for (Field field : Castdesk.class.getDeclaredFields()) {
            fields += Modifier.isStatic(field.getModifiers()) ? 0 : 1;
        }
        Check.due("twenty fields at most", 1, fields <= 20 ? 1 : 0);
        for (Method method : Castdesk.class.getDeclaredMethods()) {
            Check.due(method.getName() + "'s parameters", 1, method.getParameterCount() <= 7 ? 1 : 0);
        }
    }
}
