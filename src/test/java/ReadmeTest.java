import java.lang.reflect.Field;
import java.lang.reflect.Method;
import java.lang.reflect.Modifier;
import java.nio.file.Files;
import java.nio.file.Path;
import java.util.List;
import java.util.regex.Matcher;
import java.util.regex.Pattern;

/** The examples of README.md answer as they say there, and each call and constant stands in it. */
public final class ReadmeTest {
    private static final Pattern CALL = Pattern.compile("races\\.(\\w+)\\(([-0-9, ]*)\\); *// (-?[0-9]+|[A-Z_]+).*");
    private static final Pattern TEXT = Pattern.compile("String text = \"(.*)\";");
    private static final Pattern ROW = Pattern.compile("\\| `(\\w+)\\(([a-z, ]*)\\)` \\|.*");
    private static final Pattern COMMAND = Pattern.compile("`((?:come|go|speed|jump|wait)[-0-9 ]+;)`");

    public static void main(String[] args) throws Exception {
        List<String> lines = Files.readAllLines(Path.of("README.md"));
        Expect.due("calls in the examples", examples(lines), 18);
        Expect.due("calls in the table", table(lines), 20);
        constants(String.join("\n", lines));
        Expect.due("commands of a text", commands(String.join("\n", lines)), 5);
        Expect.finish();
    }

    private static int examples(List<String> lines) throws Exception {
        LeadRaces races = null;
        int calls = 0;
        for (String line : lines) {
            if (line.equals("LeadRaces races = new LeadRaces();")) {
                races = new LeadRaces();
            }
            Matcher text = TEXT.matcher(line);
            if (text.matches()) {
                Expect.typeIn(races, text.group(1));
            }
            Matcher call = CALL.matcher(line);
            if (call.matches()) {
                Expect.due("README: " + line, answer(races, call.group(1), call.group(2)), due(call.group(3)));
                calls++;
            }
        }
        return calls;
    }

    private static int answer(LeadRaces races, String name, String arguments) throws Exception {
        String[] words = arguments.isEmpty() ? new String[0] : arguments.split(", ");
        Object[] numbers = new Object[words.length];
        for (int i = 0; i < words.length; i++) {
            numbers[i] = Integer.parseInt(words[i]);
        }
        return (Integer) named(name, words.length).invoke(races, numbers);
    }

    private static Method named(String name, int parameters) {
        for (Method method : LeadRaces.class.getDeclaredMethods()) {
            boolean isPublic = Modifier.isPublic(method.getModifiers());
            if (isPublic && method.getName().equals(name) && method.getParameterCount() == parameters) {
                return method;
            }
        }
        throw new IllegalStateException("there is no call " + name + " of " + parameters);
    }

    private static int due(String word) throws Exception {
        return Character.isUpperCase(word.charAt(0)) ? LeadRaces.class.getField(word).getInt(null)
                : Integer.parseInt(word);
    }

    private static int table(List<String> lines) {
        int rows = 0;
        for (String line : lines) {
            Matcher row = ROW.matcher(line);
            if (row.matches()) {
                int parameters = row.group(2).isEmpty() ? 0 : row.group(2).split(", ").length;
                named(row.group(1), parameters);
                rows++;
            }
        }
        return rows;
    }

    private static void constants(String page) {
        for (Field field : LeadRaces.class.getFields()) {
            Expect.due("README has " + field.getName(), page.contains("`" + field.getName() + "`") ? 1 : 0, 1);
        }
    }

    /** Each is of the form and possible, in their order but for "go", which comes last. */
    private static int commands(String page) {
        LeadRaces races = new LeadRaces();
        Matcher command = COMMAND.matcher(page);
        String last = "";
        int found = 0;
        while (command.find()) {
            found++;
            if (command.group(1).startsWith("go")) {
                last = command.group(1);
                continue;
            }
            Expect.newText(races, command.group(1));
            Expect.due("play of " + command.group(1), races.play(), 1);
        }
        Expect.newText(races, last);
        Expect.due("play of " + last, races.play(), 1);
        return found;
    }
}
