import java.io.PrintWriter;
import java.io.StringWriter;
import java.lang.reflect.Constructor;
import java.lang.reflect.Field;
import java.lang.reflect.Method;
import java.lang.reflect.Modifier;
import java.nio.file.Files;
import java.nio.file.Path;
import java.util.ArrayDeque;
import java.util.ArrayList;
import java.util.Deque;
import java.util.List;
import java.util.Map;
import java.util.Set;
import java.util.TreeMap;
import java.util.TreeSet;
import java.util.regex.Matcher;
import java.util.regex.Pattern;
import java.util.spi.ToolProvider;

/** What of the rules of LANGUAGE.md can be seen from outside or in the text; run from the project's root. */
public final class LanguageTest {
    private static final Path SOURCE = Path.of("src/main/java/RolledStones.java");
    private static final Set<String> CALLS = Set.of("stone", "fence", "stake", "night", "draw", "weather", "need", "lies",
            "moved", "work", "tracks", "which", "found", "proof", "watch", "hold", "spring", "alone", "met", "steer", "guess",
            "guessWay", "seeds", "type", "clear", "fault", "claims", "owed", "net", "fewest", "part", "image", "from", "status",
            "count", "digest");
    private static final Set<String> CONSTANTS = Set.of("NONE", "BAD", "NO", "FULL");
    private static final Set<String> LIBRARY = Set.of("java/lang/Math.min", "java/lang/Math.max", "java/lang/Integer.bitCount",
            "java/lang/Integer.numberOfTrailingZeros", "java/lang/System.arraycopy", "java/util/Arrays.fill",
            "java/lang/String.length", "java/lang/String.charAt", "java/lang/Object.\"<init>\"");
    private static final int MOST_CALLS_DEEP = 8;
    private static int wrong = 0;

    private static void rule(int number, boolean kept, String what) {
        if (!kept) {
            wrong++;
            System.out.println("rule " + number + ": " + what);
        }
    }

    public static void main(String[] args) throws Exception {
        face();
        nested();
        String text = bare(Files.readString(SOURCE));
        words(text);
        statics();
        lengths(text);
        calls(callsOfMethods());
        System.out.println(wrong == 0 ? "the rules are kept" : wrong + " rules are not kept");
        if (wrong != 0) {
            System.exit(1);
        }
    }

    private static void face() {
        Class<?> face = RolledStones.class;
        rule(1, Modifier.isPublic(face.getModifiers()) && Modifier.isFinal(face.getModifiers()), "public and final");
        Set<String> seen = new TreeSet<>();
        for (Method m : face.getDeclaredMethods()) {
            if (Modifier.isPrivate(m.getModifiers())) {
                rule(1, !CALLS.contains(m.getName()), "a private method bears a public one's name: " + m.getName());
            } else {
                rule(1, Modifier.isPublic(m.getModifiers()) && seen.add(m.getName()), "not of the face: " + m);
            }
        }
        rule(1, seen.equals(new TreeSet<>(CALLS)), "the calls are " + seen);
        Set<String> fields = new TreeSet<>();
        for (Field f : face.getDeclaredFields()) {
            if (!Modifier.isPrivate(f.getModifiers())) {
                fields.add(f.getName());
            }
        }
        rule(1, fields.equals(new TreeSet<>(CONSTANTS)), "the constants are " + fields);
        Constructor<?>[] makers = face.getDeclaredConstructors();
        rule(1, makers.length == 1 && Modifier.isPublic(makers[0].getModifiers()) && makers[0].getParameterCount() == 0,
                "one constructor");
    }

    private static void nested() {
        Class<?>[] inside = RolledStones.class.getDeclaredClasses();
        rule(11, inside.length <= 11, "classes: " + (1 + inside.length));
        for (Class<?> c : inside) {
            rule(2, Modifier.isStatic(c.getModifiers()), "not static: " + c);
            for (Method m : c.getDeclaredMethods()) {
                rule(1, !CALLS.contains(m.getName()), "a public call's name: " + m);
                rule(11, m.getParameterCount() <= 7, "parameters of " + m);
            }
        }
    }

    /** The text without comments and string constants. */
    private static String bare(String text) {
        String code = Pattern.compile("/\\*.*?\\*/|//[^\n]*", Pattern.DOTALL).matcher(text).replaceAll(" ");
        return code.replaceAll("\"[^\"\n]*\"", "\"\"");
    }

    private static void words(String code) {
        for (String word : List.of("throw", "throws", "try", "catch", "synchronized", "assert", "package", "volatile",
                "hashCode", "toString", "equals", "System\\.out", "Random", "Thread", "Object", "var")) {
            rule(6, !Pattern.compile("\\b" + word + "\\b").matcher(code).find(), "the word " + word);
        }
        rule(2, !code.contains("->") && !code.contains("::"), "a lambda, a method reference");
        rule(4, !Pattern.compile("\\w+Exact\\b").matcher(code).find(), "an exact function");
        Matcher imports = Pattern.compile("import ([\\w.]+);").matcher(code);
        while (imports.find()) {
            rule(4, imports.group(1).equals("java.util.Arrays"), "import " + imports.group(1));
        }
        Matcher library = Pattern.compile("\\b(Math|Integer|Long|Arrays|System|String)\\.(\\w+)").matcher(code);
        Set<String> listed = Set.of("Math.min", "Math.max", "Integer.bitCount", "Integer.numberOfTrailingZeros",
                "Arrays.fill", "System.arraycopy");
        while (library.find()) {
            rule(4, listed.contains(library.group()), "the library's " + library.group());
        }
        rule(9, !Pattern.compile("\\bwhile\\s*\\(\\s*true|for\\s*\\(\\s*;\\s*;").matcher(code).find(), "a loop without an end");
    }

    private static void statics() {
        Deque<Class<?>> all = new ArrayDeque<>(List.of(RolledStones.class.getDeclaredClasses()));
        all.add(RolledStones.class);
        for (Class<?> c : all) {
            int own = 0;
            for (Field f : c.getDeclaredFields()) {
                if (Modifier.isStatic(f.getModifiers())) {
                    rule(5, Modifier.isFinal(f.getModifiers()) && f.getType().isPrimitive(), "static " + f);
                } else {
                    own++;
                }
            }
            rule(11, own <= 20, "fields of " + c + ": " + own);
        }
    }

    private static void lengths(String code) {
        Matcher heads = Pattern.compile("(?m)^( +)(?:public |private |static |final )*[\\w\\[\\]]+ (\\w+)\\([^;{]*\\) \\{$").matcher(code);
        int methods = 0;
        while (heads.find()) {
            int end = code.indexOf("\n" + heads.group(1) + "}", heads.end());
            long lines = end < 0 ? 999 : code.substring(heads.end(), end).lines().count();
            rule(11, lines <= 60, "lines of " + heads.group(2) + ": " + lines);
            methods++;
        }
        rule(11, methods > 37, "methods seen: " + methods);
    }

    /** Each method of the compiled class, and what it calls, by the names that javap tells. */
    private static Map<String, Set<String>> callsOfMethods() {
        List<String> command = new ArrayList<>(List.of("-c", "-p", "-cp", System.getProperty("java.class.path"), "RolledStones"));
        for (Class<?> c : RolledStones.class.getDeclaredClasses()) {
            command.add(c.getName());
        }
        StringWriter told = new StringWriter();
        PrintWriter into = new PrintWriter(told);
        ToolProvider javap = ToolProvider.findFirst("javap").orElseThrow();
        rule(11, javap.run(into, into, command.toArray(new String[0])) == 0, "javap tells the calls");
        into.flush();
        Map<String, Set<String>> calls = new TreeMap<>();
        String owner = "";
        String method = "";
        for (String line : told.toString().split("\\R")) {
            Matcher ofClass = Pattern.compile("^[a-z ]*class ([\\w$]+).*\\{$").matcher(line);
            Matcher ofMethod = Pattern.compile("^  (?:\\S+ )*([\\w$]+)\\([^)]*\\);$").matcher(line);
            Matcher ofCall = Pattern.compile("// (?:Interface)?Method (\\S+?):").matcher(line);
            if (ofClass.find()) {
                owner = ofClass.group(1);
            } else if (ofMethod.find()) {
                String name = ofMethod.group(1);
                method = owner + "." + (name.equals(owner) ? "\"<init>\"" : name);
                calls.put(method, new TreeSet<>());
            } else if (ofCall.find() && calls.containsKey(method)) {
                String callee = ofCall.group(1);
                calls.get(method).add(callee.contains(".") ? callee : owner + "." + callee);
            }
        }
        return calls;
    }

    private static void calls(Map<String, Set<String>> calls) {
        for (String name : CALLS) {
            rule(11, calls.containsKey("RolledStones." + name), "calls of " + name + " were seen");
        }
        calls.forEach((method, called) -> {
            for (String callee : called) {
                rule(4, calls.containsKey(callee) || LIBRARY.contains(callee), method + " calls " + callee);
            }
            int deep = depth(method, calls, 1);
            rule(11, deep <= MOST_CALLS_DEEP, "calls of " + method + " go deeper than " + MOST_CALLS_DEEP + " (or are a recursion)");
        });
    }

    /** How deep the calls of a method go, itself being the first; past the most it is not looked for further. */
    private static int depth(String method, Map<String, Set<String>> calls, int level) {
        int deepest = level;
        if (level > MOST_CALLS_DEEP) {
            return deepest;
        }
        for (String callee : calls.getOrDefault(method, Set.of())) {
            deepest = Math.max(deepest, depth(callee, calls, level + 1));
        }
        return deepest;
    }
}
