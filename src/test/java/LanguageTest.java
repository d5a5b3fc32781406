import java.io.IOException;
import java.io.PrintWriter;
import java.io.StringWriter;
import java.lang.management.ManagementFactory;
import java.lang.reflect.Field;
import java.lang.reflect.Method;
import java.lang.reflect.Modifier;
import java.nio.file.Files;
import java.nio.file.Path;
import java.util.ArrayList;
import java.util.Arrays;
import java.util.List;
import java.util.Map;
import java.util.Set;
import java.util.TreeMap;
import java.util.TreeSet;
import java.util.regex.Matcher;
import java.util.regex.Pattern;
import java.util.spi.ToolProvider;

/** Rules of LANGUAGE.md that can be looked at from outside: the face, words that are ruled out, and what is made. */
public final class LanguageTest {
    private static final Path SOURCE = Path.of("src/main/java/ClubRolls.java");
    private static final String I = "IndexOutOfBoundsException";
    private static final String A = "IllegalArgumentException";
    private static final String S = "IllegalStateException";

    private static final String[] FACE = {
        "int append(int) " + A + " " + S, "int clearText()", "int errorPosition()", "int load() " + S,
        "int about(int) " + A, "int memberOf(int,int) " + I + " " + A, "int session(int,int,int) " + I + " " + A,
        "int note(int,int) " + I + " " + A, "int isCut(int,int) " + I, "int member(int) " + A + " " + S,
        "int say(int) " + I + " " + S, "int call(int,int) " + I + " " + A + " " + S,
        "int cut(int,int,boolean) " + I + " " + A, "int leave(int) " + I + " " + S, "int back(int) " + I + " " + S,
        "int set(int) " + A, "int ticks(int) " + A, "int undo() " + S, "int standsIn(int,int,int) " + I + " " + A,
        "int compare(int,int,int) " + I + " " + A, "int lacks(int) " + I, "int together()",
        "int runScript(int,long) " + A, "int simulate(long,int) " + A, "int save(int) " + I,
        "int restore(int) " + I + " " + S};

    private LanguageTest() {
    }

    public static void main(String[] args) throws IOException {
        theFaceIsThatOfTheDocument();
        nothingElseIsVisible();
        insideClassesAreFewAndHidden();
        String code = codeAlone(Files.readString(SOURCE));
        noWordIsRuledOut(code);
        onlyLibraryOfTheList(code);
        methodsAreShort(code);
        callsGoEightDeepAtMost();
        callsMakeNothing();
        Checks.end("LanguageTest");
    }

    private static String told(Method method) {
        StringBuilder told = new StringBuilder(method.getReturnType() + " " + method.getName() + "(");
        for (Class<?> type : method.getParameterTypes()) {
            told.append(type).append(",");
        }
        String text = told.toString().replaceAll(",$", "") + ")";
        for (Class<?> thrown : method.getExceptionTypes()) {
            text += " " + thrown.getSimpleName();
        }
        return text;
    }

    private static void theFaceIsThatOfTheDocument() {
        TreeSet<String> got = new TreeSet<>();
        for (Method method : ClubRolls.class.getDeclaredMethods()) {
            if (Modifier.isPublic(method.getModifiers())) {
                got.add(told(method));
            }
        }
        Checks.same("the face", String.join("\n", got), String.join("\n", new TreeSet<>(Arrays.asList(FACE))));
        Checks.due("NONE", ClubRolls.NONE, -1);
        Checks.note(Modifier.isFinal(ClubRolls.class.getModifiers()), "the class is not final");
        Checks.due("constructors", ClubRolls.class.getDeclaredConstructors().length, 1);
        Checks.due("parameters", ClubRolls.class.getConstructors()[0].getParameterCount(), 0);
    }

    private static void nothingElseIsVisible() {
        TreeSet<String> face = new TreeSet<>();
        for (String told : FACE) {
            face.add(told.substring(4, told.indexOf('(')));
        }
        for (Method method : ClubRolls.class.getDeclaredMethods()) {
            boolean hidden = Modifier.isPrivate(method.getModifiers());
            Checks.note(hidden != face.contains(method.getName()), method + " is to be hidden, by another name");
        }
        for (Field field : ClubRolls.class.getDeclaredFields()) {
            boolean hidden = Modifier.isPrivate(field.getModifiers());
            Checks.note(hidden || field.getName().equals("NONE"), field + " is to be hidden");
            boolean isConstant = !Modifier.isStatic(field.getModifiers()) || Modifier.isFinal(field.getModifiers());
            Checks.note(isConstant, field + " is static and not final");
        }
    }

    private static void insideClassesAreFewAndHidden() {
        Class<?>[] inside = ClubRolls.class.getDeclaredClasses();
        Checks.note(inside.length < 12, inside.length + " classes are too many");
        for (Class<?> one : inside) {
            int modifiers = one.getModifiers();
            Checks.note(Modifier.isPrivate(modifiers) && Modifier.isStatic(modifiers), one + " is to be private, static");
            Checks.note(one.getDeclaredFields().length <= 20, one + " has too many fields");
            for (Method method : one.getDeclaredMethods()) {
                Checks.note(method.getParameterCount() <= 7, method + " has too many parameters");
            }
        }
    }

    /** The source without comments, and with empty texts. */
    private static String codeAlone(String source) {
        return source.replaceAll("(?s)/\\*.*?\\*/", "").replaceAll("//[^\n]*", "").replaceAll("\"[^\"\n]*\"", "\"\"");
    }

    private static void noWordIsRuledOut(String code) {
        String[] out = {"import", "package", "try", "catch", "finally", "assert", "synchronized", "protected", "native",
            "transient", "volatile", "strictfp", "var", "getMessage", "hashCode", "toString", "Object", "Exact",
            "NullPointerException", "ArrayIndexOutOfBoundsException", "float", "double", "goto", "yield", "sealed"};
        for (String word : out) {
            Checks.note(!Pattern.compile("\\b" + word + "\\b").matcher(code).find(), word + " is ruled out");
        }
        String[] signs = {"->", "::", "@", "\"\" +", "+ \"\"", "\\u", "%="};
        for (String sign : signs) {
            Checks.note(!code.contains(sign), sign + " is ruled out");
        }
        Checks.note(code.chars().allMatch(c -> c < 127), "signs above 126");
        Matcher thrown = Pattern.compile("throw new (\\w+)\\(\"\"\\);").matcher(code);
        int good = 0;
        while (thrown.find()) {
            good += Arrays.asList(I, A, S).contains(thrown.group(1)) ? 1 : 0;
        }
        Checks.due("throws of a new exception with a written text", good, code.split("\\bthrow\\b", -1).length - 1);
    }

    private static void onlyLibraryOfTheList(String code) {
        Matcher used = Pattern.compile("\\b(Math|Integer|Long|System|Arrays|String|StringBuilder)\\b(\\.\\w+)?").matcher(code);
        TreeSet<String> got = new TreeSet<>();
        while (used.find()) {
            got.add(used.group());
        }
        got.removeAll(Arrays.asList("Math.min", "Math.max", "Math.abs", "Integer.bitCount", "System.arraycopy"));
        Checks.same("library outside what is used so far", String.join(" ", got), "");
    }

    /** By the way the code is laid out: a method ends at the next closing brace that stands as far in as it begins. */
    private static void methodsAreShort(String code) {
        String[] lines = code.split("\n");
        int methods = 0;
        for (int i = 0; i < lines.length; i++) {
            Matcher head = Pattern.compile("( {4}| {8})\\w.*\\) ?(throws [\\w, ]+)?\\{").matcher(lines[i]);
            if (!head.matches()) {
                continue;
            }
            methods++;
            int end = i;
            while (end < lines.length - 1 && !lines[end].equals(head.group(1) + "}")) {
                end++;
            }
            Checks.note(end - i < 60, "a method of more than 60 lines: " + lines[i]);
        }
        Checks.note(methods > 26, "only " + methods + " methods are found");
    }

    /** The calls of methods of the file by one another, as the compiled classes have them; none calls itself. */
    private static void callsGoEightDeepAtMost() {
        ToolProvider javap = ToolProvider.findFirst("javap").orElse(null);
        if (javap == null) {
            System.out.println("there is no javap here: how deep calls go is not looked at");
            return;
        }
        Map<String, Set<String>> calls = new TreeMap<>();
        for (String told : disassembled(javap).split("(?m)^Compiled from .*\n")) {
            Matcher ofClass = Pattern.compile("class (\\S+) \\{").matcher(told);
            String owner = ofClass.find() ? ofClass.group(1) : "";
            String caller = "";
            for (String line : told.split("\n")) {
                Matcher head = Pattern.compile("  \\S.*?([\\w$]+)\\(.*\\).*;").matcher(line);
                Matcher call = Pattern.compile(".*// Method ([\\w$]+\\.)?\"?([\\w<>]+)\"?:.*").matcher(line);
                if (head.matches()) {
                    caller = owner + "." + (head.group(1).equals(owner) ? "<init>" : head.group(1));
                    calls.computeIfAbsent(caller, c -> new TreeSet<>());
                } else if (call.matches()) {
                    calls.get(caller).add((call.group(1) == null ? owner + "." : call.group(1)) + call.group(2));
                }
            }
        }
        Checks.note(calls.containsKey("ClubRolls.simulate"), "simulate is not among " + calls.keySet());
        for (String method : calls.keySet()) {
            int deep = depth(method, calls, 1);
            Checks.note(deep <= 8, method + " goes " + deep + " calls deep");
        }
    }

    private static int depth(String method, Map<String, Set<String>> calls, int above) {
        int deepest = above;
        for (String called : calls.getOrDefault(method, Set.of())) {
            // A method that calls itself would never come to an end: some twenty are enough to tell it.
            deepest = above > 20 ? above : Math.max(deepest, depth(called, calls, above + 1));
        }
        return deepest;
    }

    private static String disassembled(ToolProvider javap) {
        List<String> args = new ArrayList<>(List.of("-p", "-c"));
        List<Class<?>> classes = new ArrayList<>(List.of(ClubRolls.class.getDeclaredClasses()));
        classes.add(ClubRolls.class);
        for (Class<?> one : classes) {
            args.add(ClubRolls.class.getResource(one.getName() + ".class").toString());
        }
        StringWriter told = new StringWriter();
        PrintWriter into = new PrintWriter(told);
        javap.run(into, into, args.toArray(new String[0]));
        return told.toString();
    }

    /** All room is made in the constructor: so no run of calls can fill the room, however long it is. */
    private static void callsMakeNothing() {
        var threads = (com.sun.management.ThreadMXBean) ManagementFactory.getThreadMXBean();
        ClubRolls x = Checks.club("m0m2m4m6m8m9p09");
        int sum = calls(x);
        long before = threads.getThreadAllocatedBytes(Thread.currentThread().getId());
        for (int i = 0; i < 10; i++) {
            sum += calls(x);
        }
        long made = threads.getThreadAllocatedBytes(Thread.currentThread().getId()) - before;
        Checks.note(made < 10000, "calls made " + made + " bytes of objects; sum " + sum);
    }

    private static int calls(ClubRolls x) {
        int sum = x.clearText() + x.append('R') + x.append('m') + x.append('0') + x.errorPosition();
        for (int i = 0; i < 6; i++) {
            sum += x.call(i, 63) + x.standsIn(i, 63, 1) + x.ticks(20) + x.lacks(i) + x.together() + x.compare(i, 0, 1);
        }
        sum += x.call(0, 1) + x.say(0) + x.leave(0) + x.back(0) + x.cut(0, 1, true) + x.isCut(0, 1) + x.set(5) + x.about(2);
        sum += x.simulate(sum, 60) + x.runScript(3, 500601000080001L) + x.memberOf(0, 5) + x.session(0, 0, 2) + x.undo();
        return sum + x.save(0) + x.restore(0);
    }
}
