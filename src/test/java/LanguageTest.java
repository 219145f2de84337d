import java.lang.reflect.Executable;
import java.lang.reflect.Field;
import java.lang.reflect.Modifier;
import java.nio.file.Files;
import java.nio.file.Path;
import java.util.ArrayList;
import java.util.Arrays;
import java.util.List;
import java.util.Map;
import java.util.Set;
import java.util.TreeMap;
import java.util.regex.Matcher;
import java.util.regex.Pattern;

/** The source keeps to the rules of LANGUAGE.md, as far as its text and its classes show them. */
public final class LanguageTest {
    private static final String[] RULED_OUT = {
        "2: (new \\w+\\([^;{]*\\)\\s*\\{|->|::)",
        "3: \\b(Byte|Short|Character|Double|Float|Object|double|float)\\b",
        "3: \\[\\]\\s*\\[\\]",
        "4: \\bimport (?!java\\.util\\.Arrays;)",
        "5: \\bstatic\\s*\\{",
        "6: \\b(throws?|try|catch|synchronized|assert|equals|hashCode|toString)\\b",
        "9: \\bwhile \\((?!\\w+ < [A-Z_]+ && )",
        "9: \\bfor \\([^:)]*;\\s*;",
        "10: \"",
        "a package line: \\bpackage\\b"
    };
    private static final Set<String> LIBRARY = Set.of("Math.abs", "Math.min", "Math.max", "Arrays.fill", "System.arraycopy");
    private static final int MOST_PARAMETERS = 7, MOST_LINES = 60, DEEPEST_CALLS = 8, MOST_CLASSES = 12, MOST_FIELDS = 20;
    private static final Pattern METHOD = Pattern.compile(
        "^( {4}| {8})((?:public |private |static |final )*)(?:\\w+(?:\\[\\])? )?(\\w+)\\([^)]*\\) \\{\n(.*?)^\\1\\}$",
        Pattern.MULTILINE | Pattern.DOTALL);

    private static int wrong = 0;

    public static void main(String[] args) throws Exception {
        String text = Files.readString(Path.of("src/main/java/EchoRow.java"));
        String code = text.replaceAll("(?s)/\\*.*?\\*/", "").replaceAll("//[^\n]*", "");
        words(code);
        library(code);
        methods(code);
        classes();
        System.out.println(wrong == 0 ? "the source keeps to the rules" : wrong + " things are not as due");
        if (wrong != 0) {
            System.exit(1);
        }
    }

    private static void check(boolean right, String what) {
        if (!right) {
            wrong++;
            System.out.println(what);
        }
    }

    private static void words(String code) {
        for (String one : RULED_OUT) {
            int colon = one.indexOf(": ");
            Matcher found = Pattern.compile(one.substring(colon + 2)).matcher(code);
            check(!found.find(), "rule " + one.substring(0, colon) + ": the source has what matches " + one.substring(colon + 2));
        }
    }

    private static void library(String code) {
        Matcher call = Pattern.compile("\\b([A-Z][a-z]\\w*\\.\\w+)\\b").matcher(code);
        while (call.find()) {
            check(LIBRARY.contains(call.group(1)), "rule 4: the library's " + call.group(1));
        }
    }

    /** The names of methods differ from one another, so names alone show which method calls which. */
    private static void methods(String code) {
        Map<String, String> bodies = new TreeMap<>();
        Matcher method = METHOD.matcher(code);
        while (method.find()) {
            check(bodies.put(method.group(3), method.group(4)) == null, "two methods are called " + method.group(3));
            check(method.group(4).lines().count() <= MOST_LINES, "rule 11: too long: " + method.group(3));
        }
        int declared = 0;
        for (Class<?> one : allClasses()) {
            declared += executables(one).size();
        }
        check(bodies.size() == declared, "this test found " + bodies.size() + " methods, the class has " + declared);
        for (String name : bodies.keySet()) {
            check(depth(name, bodies, 0) <= DEEPEST_CALLS, "rules 8 and 11: calls go too deep from " + name);
        }
    }

    /** A method that calls itself, by way of others too, is deeper than any bound. */
    private static int depth(String name, Map<String, String> bodies, int open) {
        if (open > DEEPEST_CALLS) {
            return 1;
        }
        int deepest = 0;
        Matcher call = Pattern.compile("\\b(\\w+\\.)?(\\w+)\\(").matcher(bodies.get(name));
        while (call.find()) {
            if (bodies.containsKey(call.group(2))) {
                deepest = Math.max(deepest, depth(call.group(2), bodies, open + 1));
            } else if (call.group(1) != null && LIBRARY.contains(call.group(1) + call.group(2))) {
                deepest = Math.max(deepest, 1);
            } else {
                check(false, "rule 4: neither a method of the file nor the library's: " + call.group());
            }
        }
        return deepest + 1;
    }

    private static void classes() {
        check(allClasses().size() <= MOST_CLASSES, "rule 11: too many classes");
        for (Class<?> one : allClasses()) {
            int own = 0;
            for (Field field : one.getDeclaredFields()) {
                int m = field.getModifiers();
                own += Modifier.isStatic(m) ? 0 : 1;
                boolean constant = Modifier.isFinal(m) && field.getType() == int.class;
                check(!Modifier.isStatic(m) || constant, "rule 5: static, but no constant: " + field);
            }
            check(own <= MOST_FIELDS, "rule 11: too many fields: " + one);
            for (Executable made : executables(one)) {
                check(made.getParameterCount() <= MOST_PARAMETERS, "rule 11: too many parameters: " + made);
            }
        }
    }

    private static List<Class<?>> allClasses() {
        List<Class<?>> all = new ArrayList<>(Arrays.asList(EchoRow.class.getDeclaredClasses()));
        all.add(EchoRow.class);
        return all;
    }

    private static List<Executable> executables(Class<?> one) {
        List<Executable> all = new ArrayList<>(Arrays.asList(one.getDeclaredMethods()));
        all.addAll(Arrays.asList(one.getDeclaredConstructors()));
        all.removeIf(Executable::isSynthetic);
        return all;
    }
}
