import java.io.IOException;
import java.nio.file.Files;
import java.nio.file.Path;
import java.util.ArrayList;
import java.util.Arrays;
import java.util.LinkedHashMap;
import java.util.List;
import java.util.Map;
import java.util.function.Supplier;
import java.util.function.ToLongFunction;
import java.util.regex.Matcher;
import java.util.regex.Pattern;

/** Sentences of the document, each with a test of its own; tells what is wrong, and which sentence has no test. */
final class Sheet {
    static final int BAD = 0, NO = 1, FULL = 2;
    static final int BIG = Integer.MAX_VALUE, SMALL = Integer.MIN_VALUE;
    private static final Path DOCUMENT = Path.of("../shared/DOC.md");

    /** A call by one number, the others being as told. */
    interface Call {
        long on(RolledStones x, int v);
    }

    private final Map<String, String> sections = new LinkedHashMap<>();
    private final Map<String, boolean[]> quoted = new LinkedHashMap<>();
    private String now = "";
    private int wrong = 0;
    private int tests = 0;

    Sheet() throws IOException {
        if (!Files.isReadable(DOCUMENT)) {
            System.out.println("no document: the sentences are not compared with it");
            return;
        }
        Matcher parts = Pattern.compile("(?ms)^## (Terms|Promise \\d+)[^\n]*\n(.*?)(?=^## |\\z)").matcher(Files.readString(DOCUMENT));
        while (parts.find()) {
            sections.put(parts.group(1), bare(parts.group(2)));
        }
        sections.forEach((name, text) -> quoted.put(name, new boolean[text.length()]));
    }

    /** Without a call's own line of face, signs of layout, and what the interface says ahead of calls. */
    private static String bare(String text) {
        return text.replaceAll("(?m)^Ahead of the calls.*$", "").replaceAll("(?m)^`[^`]*`: ", "")
                .replaceAll("```(text)?", "").replaceAll("========", "").replaceAll("\\s+", " ").trim();
    }

    void says(String section, String sentence, Runnable test) {
        tests++;
        now = section + ", \"" + sentence + "\"";
        quote(section, sentence);
        test.run();
    }

    private void quote(String section, String sentence) {
        if (sections.isEmpty()) {
            return;
        }
        String text = sections.getOrDefault(section, "");
        boolean[] marks = quoted.getOrDefault(section, new boolean[0]);
        int at = text.indexOf(sentence);
        due("the document's sentence is there", at < 0 ? 0 : 1, 1);
        for (int next = at; next >= 0; next = text.indexOf(sentence, next + 1)) {
            if (!marks[next]) {
                at = next;
                break;
            }
        }
        if (at >= 0) {
            Arrays.fill(marks, at, at + sentence.length(), true);
        }
    }

    /** Fails if a piece of the document was quoted by no test. */
    void finish() {
        List<String> bareOnes = new ArrayList<>();
        sections.forEach((name, text) -> {
            StringBuilder left = new StringBuilder();
            for (int i = 0; i < text.length(); i++) {
                left.append(quoted.get(name)[i] ? '\n' : text.charAt(i));
            }
            left.toString().lines().filter(piece -> piece.matches(".*[A-Za-z0-9].*"))
                    .forEach(piece -> bareOnes.add(name + ": " + piece.trim()));
        });
        bareOnes.forEach(piece -> System.out.println("no test for: " + piece));
        wrong += bareOnes.size();
        System.out.println(tests + " sentences, " + (wrong == 0 ? "all hold" : wrong + " answers are not as due"));
        if (wrong != 0) {
            System.exit(1);
        }
    }

    // ---- what a test asks

    void due(String what, long got, long want) {
        if (got != want) {
            wrong++;
            System.out.println(now + ": " + what + " answered " + got + ", due is " + want);
        }
    }

    /** Refused for this reason alone, with this answer, changing nothing but STATUS. */
    void refused(RolledStones x, int reason, long answer, String what, ToLongFunction<RolledStones> call) {
        long digest = x.digest();
        int[] before = statusOf(x);
        due(what, call.applyAsLong(x), answer);
        int[] after = statusOf(x);
        for (int i = 0; i < 3; i++) {
            due("STATUS " + i + " behind " + what, after[i], before[i] + (i == reason ? 1 : 0));
        }
        due("digest behind " + what, x.digest(), digest);
    }

    /** Answered so, and not counted as refused. */
    void taken(RolledStones x, long answer, String what, ToLongFunction<RolledStones> call) {
        int[] before = statusOf(x);
        due(what, call.applyAsLong(x), answer);
        due("STATUS unchanged behind " + what, Arrays.equals(before, statusOf(x)) ? 1 : 0, 1);
    }

    /** A question: answered so, and nothing at all is changed. */
    void asked(RolledStones x, long answer, String what, ToLongFunction<RolledStones> call) {
        long digest = x.digest();
        taken(x, answer, what, call);
        due("digest behind " + what, x.digest(), digest);
    }

    /** From low to high a number is as told; past them it is BAD. */
    void bounds(String what, int low, int high, long bad, Supplier<RolledStones> maker, Call call) {
        for (int v : new int[] {low, high}) {
            RolledStones x = maker.get();
            int[] before = statusOf(x);
            call.on(x, v);
            due(what + " " + v + " is as told", Arrays.equals(before, statusOf(x)) ? 1 : 0, 1);
        }
        for (int v : new int[] {low - 1, high + 1, SMALL, BIG}) {
            refused(maker.get(), BAD, bad, what + " " + v, x -> call.on(x, v));
        }
    }

    private static int[] statusOf(RolledStones x) {
        return new int[] {x.status(0), x.status(1), x.status(2)};
    }

    // ---- what tests begin with

    /** One ROUND stone of weight 1 (its NEED is 4), and a wind of this push in night 0. */
    static RolledStones light(int cell, int way, int push) {
        RolledStones x = new RolledStones();
        x.stone(0, cell, 1);
        x.night(0, way, push, 1, false);
        return x;
    }

    /** ROUND stones of weight 1, in these cells. */
    static RolledStones lights(int... cells) {
        RolledStones x = new RolledStones();
        for (int cell : cells) {
            x.stone(0, cell, 1);
        }
        return x;
    }

    /** Six light stones in a row each, nine cells to and fro by 20 wet nights: 54 steps a night. */
    static RolledStones toAndFro() {
        RolledStones x = lights(0, 12, 24, 36, 48, 60);
        for (int n = 0; n < 20; n++) {
            x.night(n, n % 2 == 0 ? 1 : 3, 36, 1, true);
        }
        return x;
    }

    /** Two stones, of which nothing moves one, and something of everything else. */
    static RolledStones some() {
        RolledStones x = new RolledStones();
        x.stone(0, 60, 1);
        x.stone(2, 30, 99);
        x.fence(62, 1);
        x.stake(65, true);
        x.night(0, 1, 20, 1, true);
        x.night(7, 0, 4, 1, false);
        x.found(3, 0, 61);
        x.spring(0, 1, 4, 1, 61);
        text(x, "claim 0 1 2 0 9;");
        return x;
    }

    /** The most of everything: six stones, the last cells, the last night, a full book, the last stone found. */
    static RolledStones brimful() {
        RolledStones x = new RolledStones();
        for (int stone = 0; stone < 6; stone++) {
            x.stone(1, 12 * stone + 5, 94 + stone);
        }
        x.fence(143, 3);
        x.stake(143, true);
        x.night(19, 3, 99, 9, true);
        text(x, "back5 4 9;".repeat(20));
        x.found(19, 5, 143);
        return x;
    }

    static void text(RolledStones x, String text) {
        for (int at = 0; at < text.length(); at += 8) {
            String piece = text.substring(at, Math.min(text.length(), at + 8));
            long v = 0;
            for (char c : piece.toCharArray()) {
                v = v << 8 | c;
            }
            x.type(v, piece.length());
        }
    }
}
