import java.io.IOException;
import java.nio.file.Files;
import java.nio.file.Path;
import java.util.LinkedHashMap;
import java.util.Map;
import java.util.regex.Matcher;
import java.util.regex.Pattern;

/**
 * Boundary cases, each under the sentence of the document that names it. The sentences are looked
 * up in the document itself: each must stand there, and no word of the parts I to V and of the
 * promises 1 to 54 may be without a test.
 */
public final class EdgeTest {
    private static final String[] PARTS = {"II", "III", "IV", "V"};

    public static void main(String[] args) throws IOException {
        Edges edges = new Edges();
        new EdgesTerms(edges).run();
        new EdgesLanguage(edges).run();
        new EdgesParts(edges).run();
        new EdgesTold(edges).run();
        new EdgesDone(edges).run();
        new EdgesAsked(edges).run();
        new EdgesStreet(edges).run();
        int wrong = edges.wrong() + wrongQuotes(edges);
        System.out.println(wrong == 0
                ? "all " + edges.asked() + " answers of " + edges.tests() + " tests are as due"
                : wrong + " faults in " + edges.tests() + " tests");
        System.exit(wrong == 0 ? 0 : 1);
    }

    private static int wrongQuotes(Edges edges) throws IOException {
        Path document = Path.of(System.getProperty("shared", "../shared"), "DOC.md");
        Map<String, String> sections = sections(Files.readString(document));
        Map<String, boolean[]> told = new LinkedHashMap<>();
        sections.forEach((place, text) -> told.put(place, new boolean[text.length()]));
        int wrong = 0;
        for (Edges.Quote quote : edges.quotes()) {
            String text = sections.getOrDefault(quote.place(), "");
            int from = text.indexOf(quote.sentence());
            if (from < 0) {
                wrong++;
                System.out.println(quote.place() + " does not say: " + quote.sentence());
            }
            while (from >= 0) {
                java.util.Arrays.fill(told.get(quote.place()), from, from + quote.sentence().length(), true);
                from = text.indexOf(quote.sentence(), from + 1);
            }
        }
        for (String place : sections.keySet()) {
            wrong += untold(place, sections.get(place), told.get(place));
        }
        return wrong;
    }

    private static int untold(String place, String text, boolean[] told) {
        StringBuilder rest = new StringBuilder();
        for (int i = 0; i < told.length; i++) {
            rest.append(told[i] ? ' ' : text.charAt(i));
        }
        String left = rest.toString().replaceAll(" +", " ").strip();
        boolean some = left.chars().anyMatch(Character::isLetterOrDigit);
        if (some) {
            System.out.println(place + " says without a test: " + left);
        }
        return some ? 1 : 0;
    }

    /** The parts and promises by their names, with one blank for any row of blanks. */
    private static Map<String, String> sections(String document) {
        String text = document.replaceAll("```(text|java)?", " ").replaceAll("\\s+", " ");
        Map<String, String> all = new LinkedHashMap<>();
        int from = text.indexOf("## Terms") + "## Terms".length();
        String place = "I";
        for (String part : PARTS) {
            String mark = "==== " + part + ".";
            int to = text.indexOf(mark, from);
            all.put(place, text.substring(from, to));
            from = to + mark.length();
            place = part;
        }
        int constants = text.indexOf("The constants:", from);
        all.put(place, text.substring(from, constants));
        from = constants + "The constants:".length();
        place = "The constants";
        Matcher heading = Pattern.compile("## (?:(Promise \\d+): [^`]*`[^`]*`: |Not promised)").matcher(text);
        while (heading.find()) {
            if (heading.start() > from) {
                all.put(place, text.substring(from, heading.start()));
                from = heading.end();
                place = heading.group(1);
            }
        }
        if (all.size() != PARTS.length + 2 + 54) {
            throw new IllegalStateException("the document has other sections: " + all.keySet());
        }
        return all;
    }
}
