import java.io.IOException;
import java.nio.charset.StandardCharsets;
import java.nio.file.Files;
import java.nio.file.Path;
import java.util.ArrayList;
import java.util.BitSet;
import java.util.List;
import java.util.Map;
import java.util.TreeMap;
import java.util.regex.Matcher;
import java.util.regex.Pattern;

/** A sentence of the document, and the test of its own that would fail if it were broken. */
final class Sentence {
    private static final List<Sentence> ALL = new ArrayList<>();

    /** Phrases by which the document names an edge: each has to stand in a sentence that is tested. */
    private static final Pattern EDGE = Pattern.compile("\\d+ to \\d+|at most|at least|of like ones|\\bNONE\\b|\\bfalse\\b|-1000000000|-[23]\\b"
            + "|at first|from the left|32 bits|modulo|the bound|\\bnone\\b|\\bnobody\\b|\\btwice\\b|as many as can|REFUSED|beyond|no such"
            + "|told or not|empty then|fewest|least bits|least row|above 0|below 0|the lowest|the earliest|in place of|stays?\\b|or more"
            + "|even if|not so many|LEAVE or not|LEAVES aside");

    /** What no test can ask for: marks, headings, and a promise's face. */
    private static final Pattern NO_SENTENCE = Pattern.compile("```(text)?|==== \\d\\.|^Terms |^What it is |The constants:"
            + "|^Promise \\d+: [\\w ]+ `[^`]*`:|[,. ]");

    private final String section;
    private final String quote;

    private Sentence(String section, String quote) {
        this.section = section;
        this.quote = quote;
    }

    /** The section is "What it is", "Terms" or "Promise" with its number. */
    static void of(String section, String quote, Runnable test) {
        ALL.add(new Sentence(section, quote));
        int before = Checks.askedSoFar();
        Checks.speakOf(section + ", \"" + quote + "\": ");
        test.run();
        if (Checks.askedSoFar() == before) {
            Checks.fail("nothing is asked");
        }
        Checks.speakOf("");
    }

    /** Each quote stands in its section; each phrase there that names an edge, and all other words, stand in a quote. */
    static void compareWith(Path document) throws IOException {
        Map<String, String> sections = sections(Files.readString(document, StandardCharsets.UTF_8));
        Map<String, BitSet> quoted = new TreeMap<>();
        for (Sentence sentence : ALL) {
            String text = sections.getOrDefault(sentence.section, "");
            int at = text.indexOf(sentence.quote);
            Checks.due(sentence.section + " says: " + sentence.quote, at >= 0, true);
            if (at >= 0) {
                quoted.computeIfAbsent(sentence.section, name -> new BitSet()).set(at, at + sentence.quote.length());
            }
        }
        for (Map.Entry<String, String> section : sections.entrySet()) {
            BitSet known = quoted.getOrDefault(section.getKey(), new BitSet());
            edgesAreIn(known, section.getKey(), section.getValue());
            allIsIn(known, section.getKey(), section.getValue());
        }
        Checks.due("sections of the document", sections.size(), 36);
    }

    private static void edgesAreIn(BitSet known, String name, String text) {
        Matcher edge = EDGE.matcher(text);
        while (edge.find()) {
            boolean tested = known.nextClearBit(edge.start()) >= edge.end();
            int to = Math.min(text.length(), edge.end() + 40);
            Checks.due(name + ", untested: " + text.substring(edge.start(), to), tested, true);
        }
    }

    private static void allIsIn(BitSet known, String name, String text) {
        for (int from = known.nextClearBit(0); from < text.length(); from = known.nextClearBit(from)) {
            int next = known.nextSetBit(from);
            int to = next < 0 ? text.length() : next;
            String rest = NO_SENTENCE.matcher(text.substring(from, to)).replaceAll("");
            Checks.due(name + ", in no quote: " + rest, rest.isEmpty(), true);
            from = to;
        }
    }

    private static Map<String, String> sections(String document) {
        Map<String, String> sections = new TreeMap<>();
        for (String part : document.split("(?m)^## ")) {
            String name = part.split("[:\n]", 2)[0].trim();
            if (name.equals("What it is") || name.equals("Terms") || name.startsWith("Promise")) {
                // What the document tells of itself at first are no promises yet.
                String promised = part.replaceFirst("(?s)^What it is.*==== 1\\.", "What it is");
                sections.put(name, promised.replaceAll("\\s+", " "));
            }
        }
        return sections;
    }
}
