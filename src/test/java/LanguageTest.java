import java.io.PrintWriter;
import java.io.StringWriter;
import java.lang.reflect.Field;
import java.lang.reflect.Method;
import java.lang.reflect.Modifier;
import java.nio.charset.StandardCharsets;
import java.nio.file.Files;
import java.nio.file.Path;
import java.util.ArrayList;
import java.util.HashSet;
import java.util.List;
import java.util.Map;
import java.util.Optional;
import java.util.Set;
import java.util.TreeMap;
import java.util.TreeSet;
import java.util.regex.Matcher;
import java.util.regex.Pattern;
import java.util.spi.ToolProvider;

/** The rules of LANGUAGE.md, as far as they can be seen from the text and the shape of the class. */
public final class LanguageTest {
    private static final Checks CHECKS = new Checks("LanguageTest");
    private static final String[] FORBIDDEN = {
        "->", "::", "\\bsynchronized\\b", "\\bassert\\b", "\\bfinally\\b", "\\btry\\b", "\\bcatch\\b", "\\bvar\\b",
        "\\bObject\\b", "\\bSystem\\b", "\\bThread\\b", "\\bequals\\b", "\\bhashCode\\b", "\\btoString\\b", "static\\s*\\{",
        "\\bprotected\\b", "\\bNaN\\b", "Exact\\b", "\\bStrictMath\\b", "\\bgoto\\b", "\\bpackage\\b", "@\\w+",
    };

    public static void main(String[] args) throws Exception {
        String source = new String(Files.readAllBytes(Path.of("src/main/java/KindredBooks.java")), StandardCharsets.ISO_8859_1);
        signs(source);
        String bare = source.replaceAll("(?s)/\\*.*?\\*/|//[^\\n]*", "");
        throwing(bare);
        String code = bare.replaceAll("\"[^\"\\n]*\"", "\"\"").replaceAll("'(\\\\.|[^'\\\\])'", "' '");
        words(code);
        library(code);
        lengths(code);
        shapes();
        calls();
        CHECKS.end();
    }

    private static void signs(String source) {
        for (int i = 0; i < source.length(); i++) {
            if (source.charAt(i) < 1 || source.charAt(i) > 127) {
                CHECKS.tell("rule 4: sign " + (int) source.charAt(i) + " at " + i);
            }
        }
    }

    private static void throwing(String bare) {
        Matcher matcher = Pattern.compile("\\bthrow\\b[^;]*;").matcher(bare);
        while (matcher.find()) {
            boolean isPlain = matcher.group().matches("throw new (IllegalStateException|IllegalArgumentException|"
                + "IndexOutOfBoundsException|NoSuchElementException)\\((\"[^\"]*\")?\\);");
            CHECKS.isTrue("rule 6: " + matcher.group(), isPlain);
        }
    }

    private static void words(String code) {
        for (String forbidden : FORBIDDEN) {
            CHECKS.isFalse("outside the rules: " + forbidden, Pattern.compile(forbidden).matcher(code).find());
        }
        CHECKS.isFalse("rule 10: texts joined by +", Pattern.compile("\"\"\\s*\\+|\\+\\s*\"\"").matcher(code).find());
    }

    private static void library(String code) {
        Matcher imports = Pattern.compile("import ([\\w.]+);").matcher(code);
        while (imports.find()) {
            boolean isKnown = Set.of("java.util.Arrays", "java.util.NoSuchElementException").contains(imports.group(1));
            CHECKS.isTrue("rule 4: import " + imports.group(1), isKnown);
        }
        Matcher calls = Pattern.compile("\\b(Math|Arrays|Integer|Long)\\.(\\w+)").matcher(code);
        while (calls.find()) {
            CHECKS.isTrue("rule 4: " + calls.group(), Set.of("max", "min", "fill", "copyOf").contains(calls.group(2)));
        }
    }

    /** Rule 11: a method is what stands between a head with a round bracket and its closing line of like depth. */
    private static void lengths(String code) {
        String[] lines = code.split("\n");
        for (int i = 0; i < lines.length; i++) {
            if (lines[i].matches("( {4}| {8})\\w[^=;]*\\([^;]*\\{")) {
                String close = lines[i].replaceAll("\\S.*", "") + "}";
                int end = i + 1;
                while (end < lines.length && !lines[end].equals(close)) {
                    end++;
                }
                CHECKS.isTrue("rule 11: at most 60 lines: " + lines[i].trim(), end - i <= 60);
            }
        }
    }

    private static void shapes() {
        List<Class<?>> all = new ArrayList<>(List.of(KindredBooks.class.getDeclaredClasses()));
        for (Class<?> inside : all) {
            boolean isStatic = Modifier.isStatic(inside.getModifiers()) && !Modifier.isPublic(inside.getModifiers());
            CHECKS.isTrue("rule 1: static and not public: " + inside, isStatic);
        }
        Set<String> face = new HashSet<>();
        for (Method method : KindredBooks.class.getDeclaredMethods()) {
            if (Modifier.isPublic(method.getModifiers())) {
                face.add(method.getName());
            }
        }
        all.add(KindredBooks.class);
        CHECKS.isTrue("rule 11: at most 12 classes, here are " + all.size(), all.size() <= 12);
        for (Class<?> one : all) {
            shape(one, face);
        }
    }

    private static void shape(Class<?> one, Set<String> face) {
        int fields = 0;
        for (Field field : one.getDeclaredFields()) {
            boolean isStatic = Modifier.isStatic(field.getModifiers());
            fields += isStatic ? 0 : 1;
            CHECKS.isTrue("rule 5: " + field, !isStatic || Modifier.isFinal(field.getModifiers()));
        }
        CHECKS.isTrue("rule 11: at most 20 fields: " + one, fields <= 20);
        for (Method method : one.getDeclaredMethods()) {
            CHECKS.isTrue("rule 11: at most 7 parameters: " + method, method.getParameterCount() <= 7);
            boolean isOwnName = Modifier.isPublic(method.getModifiers()) || !face.contains(method.getName());
            CHECKS.isTrue("rule 1: a name of the face: " + method, isOwnName);
        }
    }

    /** Rules 4, 8 and 11: what the compiled class calls of the library, no recursion, and calls at most eight deep. */
    private static void calls() throws Exception {
        Optional<ToolProvider> javap = ToolProvider.findFirst("javap");
        if (javap.isEmpty()) {
            return;
        }
        List<String> arguments = new ArrayList<>(List.of("-c", "-p", "-cp"));
        arguments.add(Path.of(KindredBooks.class.getProtectionDomain().getCodeSource().getLocation().toURI()).toString());
        arguments.add("KindredBooks");
        for (Class<?> inside : KindredBooks.class.getDeclaredClasses()) {
            arguments.add(inside.getName());
        }
        StringWriter told = new StringWriter();
        PrintWriter out = new PrintWriter(told);
        CHECKS.same("javap", javap.get().run(out, out, arguments.toArray(new String[0])), 0);
        Map<String, Set<String>> graph = readCalls(told.toString());
        CHECKS.isTrue("javap tells the methods", graph.size() > 150);
        int deepest = 0;
        for (String method : graph.keySet()) {
            deepest = Math.max(deepest, depth(graph, method, 1));
        }
        CHECKS.isTrue("rule 11: calls at most eight deep, here are " + deepest, deepest <= 8);
    }

    /** For each method those of the class that it calls; overloads count as one. */
    private static Map<String, Set<String>> readCalls(String told) {
        Set<String> library = Set.of("Math.max", "Math.min", "Arrays.copyOf", "Arrays.fill", "Object.<init>",
            "IllegalStateException.<init>", "IllegalArgumentException.<init>", "IndexOutOfBoundsException.<init>",
            "NoSuchElementException.<init>");
        Pattern type = Pattern.compile("^(?:\\w+ )*class ([\\w$]+).*");
        Pattern method = Pattern.compile("^  (?:\\S+ )*?([\\w$]+)\\(.*\\).*;");
        Pattern call = Pattern.compile(".*: invoke\\w+ .*// (?:Interface)?Method (\\S+):\\(.*");
        Map<String, Set<String>> graph = new TreeMap<>();
        String in = "";
        String from = "";
        for (String line : told.split("\\R")) {
            Matcher types = type.matcher(line);
            Matcher methods = method.matcher(line);
            Matcher calls = call.matcher(line);
            if (types.matches()) {
                in = types.group(1);
            } else if (methods.matches()) {
                from = in + "." + (methods.group(1).equals(in) ? "<init>" : methods.group(1));
                graph.computeIfAbsent(from, k -> new TreeSet<>());
            } else if (calls.matches()) {
                String to = calls.group(1).replace("\"", "");
                if (to.startsWith("java/")) {
                    CHECKS.isTrue("rule 4: " + from + " calls " + to, library.contains(to.substring(to.lastIndexOf('/') + 1)));
                } else {
                    graph.computeIfAbsent(from, k -> new TreeSet<>()).add(to.contains(".") ? to : in + "." + to);
                }
            }
        }
        return graph;
    }

    /** How deep calls go from a method on; one that stands open twice goes on without an end. */
    private static int depth(Map<String, Set<String>> graph, String method, int open) {
        if (open > 40) {
            CHECKS.tell("rule 8: recursion through " + method);
            return open;
        }
        int deepest = open;
        for (String next : graph.getOrDefault(method, Set.of())) {
            deepest = Math.max(deepest, depth(graph, next, open + 1));
            if (deepest > 40) {
                return deepest;
            }
        }
        return deepest;
    }
}
