import java.io.IOException;
import java.lang.reflect.Constructor;
import java.lang.reflect.Field;
import java.lang.reflect.Method;
import java.lang.reflect.Modifier;
import java.nio.file.Files;
import java.nio.file.Path;
import java.util.Arrays;
import java.util.Set;
import java.util.TreeSet;

/** The class has the document's face and nothing else that can be seen, and its constants. */
public final class FaceTest {
    private static final Set<String> METHODS = new TreeSet<>(Arrays.asList(
            "come/3", "go/1", "speed/2", "jump/2", "pause/1", "runnerOf/2", "raceOf/2", "leader/0",
            "ledBy/2", "count/1", "leadsAt/1", "settledAt/0", "row/2", "nextRun/0", "meanBits/0",
            "undo/0", "type/1", "clearText/0", "fault/1", "play/0"));
    private static final Set<String> CONSTANTS = new TreeSet<>(Arrays.asList(
            "INVALID_ARGUMENT", "NOT_POSSIBLE", "LIMIT_REACHED", "NOT_FOUND"));

    public static void main(String[] args) throws IOException {
        Expect.due("INVALID_ARGUMENT", LeadRaces.INVALID_ARGUMENT, -10000001);
        Expect.due("NOT_POSSIBLE", LeadRaces.NOT_POSSIBLE, -10000002);
        Expect.due("LIMIT_REACHED", LeadRaces.LIMIT_REACHED, -10000003);
        Expect.due("NOT_FOUND", LeadRaces.NOT_FOUND, -10000004);
        methods();
        fields();
        constructors();
        source();
        Expect.finish();
    }

    private static void methods() {
        Set<String> seen = new TreeSet<>();
        for (Method method : LeadRaces.class.getDeclaredMethods()) {
            if (!Modifier.isPrivate(method.getModifiers())) {
                seen.add(method.getName() + "/" + method.getParameterCount());
                Expect.due(method + " is public, returns int", isFace(method) ? 1 : 0, 1);
            } else {
                String name = method.getName() + "/";
                boolean taken = METHODS.stream().anyMatch(face -> face.startsWith(name));
                Expect.due("private " + name + " has a name of its own", taken ? 0 : 1, 1);
            }
        }
        Expect.due("the methods " + seen, seen.equals(METHODS) ? 1 : 0, 1);
    }

    private static boolean isFace(Method method) {
        boolean takesInts = Arrays.stream(method.getParameterTypes()).allMatch(type -> type == int.class);
        return method.getModifiers() == Modifier.PUBLIC && method.getReturnType() == int.class && takesInts;
    }

    private static void fields() {
        Set<String> seen = new TreeSet<>();
        for (Field field : LeadRaces.class.getDeclaredFields()) {
            if (!Modifier.isPrivate(field.getModifiers())) {
                seen.add(field.getName());
            }
            boolean fixed = !Modifier.isStatic(field.getModifiers()) || Modifier.isFinal(field.getModifiers());
            Expect.due(field + " is final if static", fixed ? 1 : 0, 1);
        }
        Expect.due("the constants " + seen, seen.equals(CONSTANTS) ? 1 : 0, 1);
    }

    private static void constructors() {
        Constructor<?>[] all = LeadRaces.class.getDeclaredConstructors();
        Expect.due("constructors", all.length, 1);
        Expect.due("its parameters", all[0].getParameterCount(), 0);
        Expect.due("it is public", all[0].getModifiers(), Modifier.PUBLIC);
        Expect.due("the class is public and final", LeadRaces.class.getModifiers(),
                Modifier.PUBLIC | Modifier.FINAL);
    }

    /** Words that LANGUAGE.md leaves out. */
    private static void source() throws IOException {
        String source = Files.readString(Path.of("src/main/java/LeadRaces.java"));
        String[] out = {"package ", "->", "::", "catch", "throw", "finally", "assert ", "synchronized",
            "import java.io", "import java.util.function", "Random", "System.out", "nanoTime",
            "currentTime", "toString", "hashCode", "Exact("};
        for (String word : out) {
            Expect.due("'" + word + "' stands in the source at", source.indexOf(word), -1);
        }
    }
}
