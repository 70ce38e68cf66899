import java.io.IOException;
import java.nio.file.Files;
import java.nio.file.Path;
import java.util.ArrayList;
import java.util.LinkedHashMap;
import java.util.List;
import java.util.Map;
import java.util.regex.Matcher;
import java.util.regex.Pattern;

/**
 * What the tests of the document's boundary cases share. Each of them begins with edge(), which names the promise
 * (or the point of "Terms") and quotes the words that it tests; end() asks whether any boundary case was left out.
 */
final class Edges {
    private static final Path DOCUMENT = Path.of("../shared/DOC.md");
    private static final Pattern HEAD = Pattern.compile("## (Promise \\d+|Terms)\\b.*");
    private static final Pattern POINT = Pattern.compile("([123])\\. [A-Z].*");

    /** Words by which a sentence names a boundary case. */
    private static final Pattern NAMES_AN_EDGE = Pattern.compile("\\b(BEYOND|FULL|NONE|STATE|MISSING|SIZE|IMPOSSIBLE)\\b"
            + "|\\bKIND: |-?\\d+ to \\d+|at most|at first|no later|no less|or less|or more|\\bbelow\\b|\\babove\\b"
            + "|\\bempty\\b|\\bends\\b|\\bnothing\\b|[Nn]othing|[Tt]he least|[Tt]he first\\b|latest|too early|13th"
            + "|lowest|\\bnone\\b|\\bno\\b|stays|unlike|likewise|\\(an int\\)");

    private static final Map<String, String> SECTIONS = new LinkedHashMap<>();
    private static final Map<String, boolean[]> QUOTED = new LinkedHashMap<>();
    private static String current = "";

    /** A call with one of its arguments left open. */
    interface Call {
        int of(ReleaseTerms x, int v);
    }

    private Edges() {
    }

    static void readDocument() throws IOException {
        Map<String, List<String>> lines = new LinkedHashMap<>();
        String section = "";
        for (String line : Files.readAllLines(DOCUMENT)) {
            Matcher head = HEAD.matcher(line);
            Matcher point = POINT.matcher(line);
            if (head.matches()) {
                section = head.group(1);
            } else if (line.startsWith("## ") || line.startsWith("Ahead of the calls")) {
                section = "";
            } else if (section.startsWith("Terms") && point.matches()) {
                section = "Terms " + point.group(1);
            }
            if (!line.startsWith("#") && !line.startsWith("```")) {
                lines.computeIfAbsent(section, s -> new ArrayList<>()).add(line);
            }
        }
        lines.remove("");
        lines.forEach((name, its) -> {
            String text = String.join(" ", its).replaceAll("\\s+", " ").trim();
            SECTIONS.put(name, text);
            QUOTED.put(name, new boolean[text.length()]);
        });
    }

    /** Begins the test of some words of the document, with a new object. */
    static ReleaseTerms edge(String section, String words) {
        current = section + " \"" + words + "\"";
        String text = SECTIONS.getOrDefault(section, "");
        int at = text.indexOf(words);
        Due.due(current + ": the words stand in the document", at >= 0 ? 1 : 0, 1);
        while (at >= 0) {
            for (int i = at; i < at + words.length(); i++) {
                QUOTED.get(section)[i] = true;
            }
            at = text.indexOf(words, at + 1);
        }
        return new ReleaseTerms();
    }

    static void is(String call, int got, int want) {
        Due.due(current + ": " + call, got, want);
    }

    /** Both ends of what is allowed, and what lies beside them and farthest away. */
    static void within(ReleaseTerms x, String argument, int least, int most, Call call) {
        isAllowed(x, argument, call, least, most);
        isBeyond(x, argument, call, least - 1, most + 1, Integer.MIN_VALUE, Integer.MAX_VALUE);
    }

    static void isAllowed(ReleaseTerms x, String argument, Call call, int... allowed) {
        for (int v : allowed) {
            is(argument + " " + v + " is allowed", call.of(x, v) == Due.BEYOND ? 0 : 1, 1);
        }
    }

    static void isBeyond(ReleaseTerms x, String argument, Call call, int... wrong) {
        for (int v : wrong) {
            is(argument + " " + v, call.of(x, v), Due.BEYOND);
        }
    }

    /** Every section has a test, and every word that names a boundary case was quoted by one. */
    static void end() {
        Due.due("49 promises, and the begin of \"Terms\" and its 3 points", SECTIONS.size(), 49 + 4);
        SECTIONS.forEach((section, text) -> {
            boolean[] quoted = QUOTED.get(section);
            int some = 0;
            for (boolean is : quoted) {
                some |= is ? 1 : 0;
            }
            Due.due(section + " has a test", some, 1);
            Matcher m = NAMES_AN_EDGE.matcher(text);
            while (m.find()) {
                String around = text.substring(Math.max(0, m.start() - 25), Math.min(text.length(), m.end() + 25));
                Due.due(section + ": \"" + m.group() + "\" in \"" + around + "\" has a test",
                        quoted[m.start()] ? 1 : 0, 1);
            }
        });
    }
}
