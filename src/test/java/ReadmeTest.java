import java.io.IOException;
import java.lang.reflect.InvocationTargetException;
import java.lang.reflect.Method;
import java.lang.reflect.Modifier;
import java.nio.file.Files;
import java.nio.file.Path;
import java.util.ArrayList;
import java.util.HashMap;
import java.util.List;
import java.util.Map;
import java.util.regex.Matcher;
import java.util.regex.Pattern;

/** README.md: each line of its examples answers what stands behind it, and its table has the calls of the class. */
public final class ReadmeTest {
    private static final Path README = Path.of("README.md");
    private static final String MADE = "ClubRolls club = new ClubRolls();";
    private static final Pattern APPENDED =
        Pattern.compile("for \\(char c : \"([^\"]*)\"\\.toCharArray\\(\\)\\) \\{ club\\.append\\(c\\); \\}");
    private static final Pattern CALLED =
        Pattern.compile("(?:int (\\w+) = )?club\\.(\\w+)\\((.*?)\\); +// (throws \\w+|NONE|-?\\d+)(?:[:,] .*)?");
    private static final List<String> COLUMNS =
        List.of("IndexOutOfBoundsException", "IllegalArgumentException", "IllegalStateException");

    private final Map<String, Long> names = new HashMap<>();
    private ClubRolls club;

    private ReadmeTest() {
    }

    public static void main(String[] args) throws IOException {
        String text = Files.readString(README);
        List<String> examples = examples(text);
        Checks.due("examples", examples.size(), 4);
        for (String example : examples) {
            new ReadmeTest().play(example);
        }
        theTableHasTheCalls(text);
        Checks.note(text.contains("at most " + 512 + " calls"), "README.md does not say for how many calls an object is");
        Checks.end("ReadmeTest");
    }

    private static List<String> examples(String text) {
        List<String> found = new ArrayList<>();
        Matcher example = Pattern.compile("(?s)```java\n(.*?)```").matcher(text);
        while (example.find()) {
            found.add(example.group(1));
        }
        return found;
    }

    private void play(String example) {
        for (String line : example.split("\n")) {
            Matcher appended = APPENDED.matcher(line);
            Matcher called = CALLED.matcher(line);
            if (line.equals(MADE)) {
                club = new ClubRolls();
            } else if (appended.matches()) {
                for (char c : appended.group(1).toCharArray()) {
                    club.append(c);
                }
            } else if (called.matches()) {
                String got = answer(called.group(2), called.group(3));
                Checks.same(line, got, called.group(4).replace("NONE", "" + ClubRolls.NONE));
                if (called.group(1) != null) {
                    names.put(called.group(1), Long.parseLong(got));
                }
            } else {
                Checks.note(false, "this line of an example is not understood: " + line);
            }
        }
    }

    private String answer(String name, String args) {
        Method method = methodOf(name);
        List<Object> values = new ArrayList<>();
        for (String arg : args.isEmpty() ? new String[0] : args.split(", ")) {
            boolean isLong = method.getParameterTypes()[values.size()] == long.class;
            values.add(isLong ? (Object) valueOf(arg) : (Object) (int) valueOf(arg));
        }
        try {
            return "" + method.invoke(club, values.toArray());
        } catch (InvocationTargetException e) {
            return "throws " + e.getCause().getClass().getSimpleName();
        } catch (IllegalAccessException e) {
            return "is not public";
        }
    }

    private long valueOf(String arg) {
        if (names.containsKey(arg)) {
            return names.get(arg);
        }
        return arg.startsWith("0b") ? Long.parseLong(arg.substring(2), 2) : Long.parseLong(arg.replace("L", ""));
    }

    private static Method methodOf(String name) {
        for (Method method : ClubRolls.class.getDeclaredMethods()) {
            if (method.getName().equals(name) && Modifier.isPublic(method.getModifiers())) {
                return method;
            }
        }
        throw new IllegalArgumentException("README.md calls " + name + ", which the class does not have");
    }

    /** A row for each call, with something said of each exception that it throws, and of no other. */
    private static void theTableHasTheCalls(String text) {
        int rows = 0;
        Checks.note(text.contains("| call | answers | " + String.join(" | ", COLUMNS) + " |\n"), "the table's head");
        for (String line : text.split("\n")) {
            Matcher row = Pattern.compile("\\| `(\\w+)\\((.*)\\)` \\|.*").matcher(line);
            if (!row.matches()) {
                continue;
            }
            rows++;
            Method method = methodOf(row.group(1));
            int parameters = row.group(2).isEmpty() ? 0 : row.group(2).split(", ").length;
            Checks.due("parameters of " + line, parameters, method.getParameterCount());
            List<String> thrown = new ArrayList<>();
            String[] cells = line.split(" ?\\| ?", -1);
            for (int i = 0; i < COLUMNS.size(); i++) {
                if (!cells[i + 3].isBlank()) {
                    thrown.add(COLUMNS.get(i));
                }
            }
            List<String> due = new ArrayList<>();
            for (Class<?> one : method.getExceptionTypes()) {
                due.add(one.getSimpleName());
            }
            Checks.same("what is thrown by " + line, "" + thrown, "" + due);
        }
        Checks.due("rows of the table of calls", rows, 26);
    }
}
