import java.io.IOException;
import java.lang.reflect.Executable;
import java.lang.reflect.Field;
import java.lang.reflect.Method;
import java.lang.reflect.Modifier;
import java.net.URISyntaxException;
import java.nio.file.DirectoryStream;
import java.nio.file.Files;
import java.nio.file.Path;
import java.util.ArrayList;
import java.util.Arrays;
import java.util.List;
import java.util.Map;
import java.util.Set;
import java.util.TreeMap;
import java.util.TreeSet;
import java.util.regex.Matcher;
import java.util.regex.Pattern;

/** Rules of LANGUAGE.md that the program's text and classes can show; run from the project's folder. */
public final class LanguageTest {
    private static final Due DUE = new Due();
    private static final Path PROGRAM = Path.of("src/main/java/RelayTrays.java");

    private static final List<String> NO_WORDS = List.of(
        "throw", "throws", "try", "catch", "finally", "synchronized", "assert", "import", "package", "native",
        "volatile", "transient", "var", "yield", "float", "double", "Float", "Double", "Object", "System", "Thread",
        "Random", "equals", "hashCode", "toString", "RuntimeException", "Exception");
    private static final List<String> NO_SIGNS = List.of("->", "::", "@", "Exact(", "static {");

    private static final Set<String> LIBRARY = Set.of("Math.floorMod", "Long.numberOfLeadingZeros");
    private static final Set<Class<?>> CONSTANTS = Set.of(
        int.class, long.class, boolean.class, char.class, String.class,
        int[].class, long[].class, char[].class, byte[].class);
    private static final Set<Class<?>> NUMBERS = Set.of(
        void.class, int.class, long.class, short.class, byte.class, char.class, boolean.class);

    private static final int PARAMETERS = 7, LINES = 60, DEEP = 8, CLASSES = 12, FIELDS = 20;

    private static final Pattern METHOD = Pattern.compile(
        "(?m)^ +(?:public |private |static )*(?:[\\w\\[\\]]+ )?(\\w+)\\(([^()]*)\\) \\{$");
    private static final Pattern LOOP = Pattern.compile("\\b(while|for|do)\\b([^{]*)\\{");

    public static void main(String[] args) throws IOException, URISyntaxException {
        String text = Files.readString(PROGRAM);
        String code = text.replaceAll("(?s)/\\*.*?\\*/", " ").replaceAll("//[^\n]*", " ");
        List<Class<?>> classes = classes();
        words(text, code);
        classesInside(classes);
        types(classes);
        library(code, classes);
        staticFields(classes);
        sizes(classes);
        loops(code);
        methods(code, classes);
        DUE.end("LanguageTest");
    }

    private static List<Class<?>> classes() {
        List<Class<?>> classes = new ArrayList<>(List.of(RelayTrays.class));
        classes.addAll(Arrays.asList(RelayTrays.class.getDeclaredClasses()));
        return classes;
    }

    /** Rules 2, 3, 6 and 13. */
    private static void words(String text, String code) {
        DUE.holds("the text holds characters 0 to 255 alone", text.chars().allMatch(sign -> sign <= 255));
        Set<String> words = new TreeSet<>(Arrays.asList(code.split("\\W+")));
        DUE.holds("the program was read", words.contains("RelayTrays"));
        for (String word : NO_WORDS) {
            DUE.holds("the word " + word + " does not stand in the program", !words.contains(word));
        }
        for (String sign : NO_SIGNS) {
            DUE.holds("the sign " + sign + " does not stand in the program", !code.contains(sign));
        }
    }

    /** Rule 2: what the compiler wrote is the class and its static classes, none of them local or without a name. */
    private static void classesInside(List<Class<?>> classes) throws IOException, URISyntaxException {
        Set<String> due = new TreeSet<>();
        for (Class<?> one : classes) {
            due.add(one.getName() + ".class");
            DUE.holds(one + " is static, or the class itself",
                one == RelayTrays.class || Modifier.isStatic(one.getModifiers()));
        }
        Set<String> written = new TreeSet<>();
        Path folder = Path.of(RelayTrays.class.getProtectionDomain().getCodeSource().getLocation().toURI());
        try (DirectoryStream<Path> files = Files.newDirectoryStream(folder, "RelayTrays{,$*}.class")) {
            files.forEach(file -> written.add(file.getFileName().toString()));
        }
        DUE.holds("the classes are " + due + ": " + written, written.equals(due));
    }

    /** Rule 3. */
    private static void types(List<Class<?>> classes) {
        for (Class<?> one : classes) {
            for (Field field : one.getDeclaredFields()) {
                DUE.holds("the type of " + field + " is allowed", isAllowed(field.getType(), classes));
            }
            for (Executable made : executables(one)) {
                for (Class<?> type : made.getParameterTypes()) {
                    DUE.holds("the type " + type + " of " + made + " is allowed", isAllowed(type, classes));
                }
            }
            for (Method method : one.getDeclaredMethods()) {
                Class<?> type = method.getReturnType();
                DUE.holds("the type " + type + " of " + method + " is allowed", isAllowed(type, classes));
            }
        }
    }

    private static boolean isAllowed(Class<?> type, List<Class<?>> classes) {
        Class<?> one = type.isArray() ? type.getComponentType() : type;
        return NUMBERS.contains(one) || classes.contains(one);
    }

    private static List<Executable> executables(Class<?> one) {
        List<Executable> all = new ArrayList<>(Arrays.asList(one.getDeclaredMethods()));
        all.addAll(Arrays.asList(one.getDeclaredConstructors()));
        return all;
    }

    /** Rule 4. */
    private static void library(String code, List<Class<?>> classes) {
        Set<String> own = new TreeSet<>();
        classes.forEach(one -> own.add(one.getSimpleName()));
        Matcher call = Pattern.compile("\\b([A-Z]\\w*)\\.(\\w+)").matcher(code);
        while (call.find()) {
            DUE.holds(call.group() + " is of the program or allowed",
                own.contains(call.group(1)) || LIBRARY.contains(call.group()));
        }
    }

    /** Rule 5. */
    private static void staticFields(List<Class<?>> classes) {
        for (Class<?> one : classes) {
            for (Field field : one.getDeclaredFields()) {
                boolean isStatic = Modifier.isStatic(field.getModifiers());
                DUE.holds(field + " is a constant", !isStatic
                    || Modifier.isFinal(field.getModifiers()) && CONSTANTS.contains(field.getType()));
            }
        }
    }

    /** Rule 11, what the classes show. */
    private static void sizes(List<Class<?>> classes) {
        DUE.holds("at most " + CLASSES + " classes", classes.size() <= CLASSES);
        for (Class<?> one : classes) {
            long fields = Arrays.stream(one.getDeclaredFields())
                .filter(field -> !Modifier.isStatic(field.getModifiers())).count();
            DUE.holds(one + " has at most " + FIELDS + " fields: " + fields, fields <= FIELDS);
            for (Executable made : executables(one)) {
                DUE.holds(made + " takes at most " + PARAMETERS, made.getParameterCount() <= PARAMETERS);
            }
        }
    }

    /** Rule 9: each loop holds a counter against a bound. */
    private static void loops(String code) {
        Matcher loop = LOOP.matcher(code);
        int loops = 0;
        while (loop.find()) {
            loops++;
            DUE.holds("a bound stands in " + loop.group(), loop.group(2).contains("<"));
        }
        DUE.holds("the loop of a run was read", loops > 0);
    }

    /** Rules 8 and 11: methods are short, and call one another at most eight deep, none of them itself. */
    private static void methods(String code, List<Class<?>> classes) {
        Map<String, String> bodies = bodies(code);
        Set<String> names = new TreeSet<>(bodies.keySet());
        int written = 0;
        for (Class<?> one : classes) {
            names.remove(one.getSimpleName());
            written += one.getDeclaredMethods().length;
        }
        DUE.due("methods that were read, each by a name of its own", names.size(), written);
        for (Map.Entry<String, String> method : bodies.entrySet()) {
            long lines = method.getValue().lines().count() + 1;
            DUE.holds(method.getKey() + " has at most " + LINES + " lines: " + lines, lines <= LINES);
            int deep = depth(method.getKey(), bodies, 0);
            DUE.holds(method.getKey() + " calls at most " + DEEP + " deep: " + deep, deep <= DEEP);
        }
    }

    private static Map<String, String> bodies(String code) {
        Map<String, String> bodies = new TreeMap<>();
        Matcher method = METHOD.matcher(code);
        while (method.find()) {
            bodies.put(method.group(1), body(code, method.end()));
        }
        return bodies;
    }

    private static String body(String code, int from) {
        int open = 1;
        int at = from;
        while (open > 0 && at < code.length()) {
            char sign = code.charAt(at);
            open += sign == '{' ? 1 : sign == '}' ? -1 : 0;
            at++;
        }
        return code.substring(from, at);
    }

    /** A method that calls itself, by others too, is found to be too deep. */
    private static int depth(String method, Map<String, String> bodies, int above) {
        int deepest = 0;
        if (above <= DEEP) {
            Matcher call = Pattern.compile("\\b(\\w+)\\(").matcher(bodies.get(method));
            while (call.find()) {
                if (bodies.containsKey(call.group(1))) {
                    deepest = Math.max(deepest, depth(call.group(1), bodies, above + 1));
                }
            }
        }
        return deepest + 1;
    }
}
