import java.io.IOException;
import java.lang.reflect.Method;
import java.nio.file.Files;
import java.nio.file.Path;
import java.util.Map;
import java.util.Set;
import java.util.TreeMap;
import java.util.TreeSet;
import java.util.regex.Matcher;
import java.util.regex.Pattern;
import java.util.stream.Collectors;
import java.util.stream.Stream;

/** What README.md tells of answers, calls and tests is so; run from the project's root. */
public final class ReadmeTest {
    private static int wrong = 0;

    private static void due(String what, Object got, Object want) {
        if (!got.equals(want)) {
            wrong++;
            System.out.println("README.md: " + what + " is " + got + ", due is " + want);
        }
    }

    public static void main(String[] args) throws Exception {
        String readme = Files.readString(Path.of("README.md"));
        Map<String, Method> face = new TreeMap<>();
        for (Method m : RolledStones.class.getDeclaredMethods()) {
            if (java.lang.reflect.Modifier.isPublic(m.getModifiers())) {
                face.put(m.getName(), m);
            }
        }
        int answers = examples(readme, face);
        due("the table of calls", namesIn(readme, "| calls |", "`(\\w+)`"), new TreeSet<>(face.keySet()));
        due("the table of tests", namesIn(readme, "| test |", "`src/test/java/(\\w+)\\.java`"), testsThere());
        System.out.println(wrong == 0 ? answers + " answers of README.md are as due" : "README.md tells what is not so");
        if (wrong != 0) {
            System.exit(1);
        }
    }

    /** All lines of the java blocks, one behind the other, on one object. */
    private static int examples(String readme, Map<String, Method> face) throws Exception {
        RolledStones x = new RolledStones();
        int answers = 0;
        Matcher blocks = Pattern.compile("(?s)```java\n(.*?)```").matcher(readme);
        while (blocks.find()) {
            for (String line : blocks.group(1).split("\n")) {
                if (line.equals("RolledStones x = new RolledStones();")) {
                    continue;
                }
                Matcher call = Pattern.compile("^x\\.(\\w+)\\((.*?)\\); +// (-?\\d+): .+$").matcher(line);
                boolean read = call.matches() && face.containsKey(call.group(1));
                due("a line that can be tried: " + line, read, true);
                if (read) {
                    answers++;
                    due(line, answer(x, face.get(call.group(1)), call.group(2)), Long.valueOf(call.group(3)));
                }
            }
        }
        due("that there are examples", answers > 0, true);
        return answers;
    }

    private static Long answer(RolledStones x, Method call, String told) throws Exception {
        String[] words = told.isEmpty() ? new String[0] : told.split(", ");
        Class<?>[] types = call.getParameterTypes();
        due("how many numbers " + call.getName() + " takes", words.length, types.length);
        Object[] given = new Object[types.length];
        for (int i = 0; i < types.length && i < words.length; i++) {
            if (types[i] == boolean.class) {
                given[i] = Boolean.valueOf(words[i]);
            } else if (types[i] == long.class) {
                given[i] = Long.decode(words[i].replace("L", ""));
            } else {
                given[i] = Integer.decode(words[i]);
            }
        }
        return ((Number) call.invoke(x, given)).longValue();
    }

    /** What the table under this head names. */
    private static Set<String> namesIn(String readme, String head, String name) {
        int from = Math.max(0, readme.indexOf(head));
        int to = readme.indexOf("\n\n", from);
        Set<String> names = new TreeSet<>();
        String table = readme.substring(from, to < 0 ? readme.length() : to);
        for (String row : table.split("\n")) {
            // Names in a row's first column alone: the others are what is told of them.
            Matcher each = Pattern.compile(name).matcher(row.split("\\|")[1]);
            while (each.find()) {
                names.add(each.group(1));
            }
        }
        return names;
    }

    private static Set<String> testsThere() throws IOException {
        try (Stream<Path> files = Files.list(Path.of("src/test/java"))) {
            return files.map(file -> file.getFileName().toString().replace(".java", ""))
                    .collect(Collectors.toCollection(TreeSet::new));
        }
    }
}
