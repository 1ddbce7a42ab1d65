import java.io.IOException;
import java.nio.charset.StandardCharsets;
import java.nio.file.Files;
import java.nio.file.Path;
import java.util.ArrayList;
import java.util.BitSet;
import java.util.List;
import java.util.Map;
import java.util.TreeMap;
import java.util.regex.Matcher;
import java.util.regex.Pattern;

/** A sentence of the document that names an edge, and the test of its own that would fail if it were broken. */
final class Sentence {
    private static final List<Sentence> ALL = new ArrayList<>();

    /** Phrases by which the document names an edge: each has to stand in a sentence that is tested. */
    private static final Pattern EDGE = Pattern.compile("\\d+ to \\d+|at most|at least|of like ones|\\bNONE\\b|\\bfalse\\b|-1000000000|-[23]\\b"
            + "|at first|from the left|32 bits|modulo|the bound|\\bnone\\b|\\bnobody\\b|\\btwice\\b|as many as can|REFUSED|beyond|no such"
            + "|told or not|empty then|fewest|least bits|least row|above 0|below 0|the lowest|the earliest|in place of|stays?\\b|or more"
            + "|even if|not so many|LEAVE or not|LEAVES aside");

    private final String section;
    private final String quote;

    private Sentence(String section, String quote) {
        this.section = section;
        this.quote = quote;
    }

    /** The section is "Terms" or "Promise" with its number. */
    static void of(String section, String quote, Runnable test) {
        ALL.add(new Sentence(section, quote));
        int before = Checks.askedSoFar();
        Checks.speakOf(section + ", \"" + quote + "\": ");
        test.run();
        if (Checks.askedSoFar() == before) {
            Checks.fail("nothing is asked");
        }
        Checks.speakOf("");
    }

    /** Each quote stands in its section, and each phrase there that names an edge stands in a quote. */
    static void compareWith(Path document) throws IOException {
        Map<String, String> sections = sections(Files.readString(document, StandardCharsets.UTF_8));
        Map<String, BitSet> quoted = new TreeMap<>();
        for (Sentence sentence : ALL) {
            String text = sections.getOrDefault(sentence.section, "");
            int at = text.indexOf(sentence.quote);
            Checks.due(sentence.section + " says: " + sentence.quote, at >= 0, true);
            if (at >= 0) {
                quoted.computeIfAbsent(sentence.section, name -> new BitSet()).set(at, at + sentence.quote.length());
            }
        }
        for (Map.Entry<String, String> section : sections.entrySet()) {
            BitSet known = quoted.getOrDefault(section.getKey(), new BitSet());
            Matcher edge = EDGE.matcher(section.getValue());
            while (edge.find()) {
                boolean tested = known.nextClearBit(edge.start()) >= edge.end();
                int to = Math.min(section.getValue().length(), edge.end() + 40);
                Checks.due(section.getKey() + ", untested: " + section.getValue().substring(edge.start(), to), tested, true);
            }
        }
        Checks.due("sections of the document", sections.size(), 35);
    }

    private static Map<String, String> sections(String document) {
        Map<String, String> sections = new TreeMap<>();
        for (String part : document.split("(?m)^## ")) {
            String name = part.split("[:\n]", 2)[0].trim();
            if (name.equals("Terms") || name.startsWith("Promise")) {
                sections.put(name, part.replaceAll("\\s+", " "));
            }
        }
        return sections;
    }
}
