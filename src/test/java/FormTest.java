import java.io.IOException;
import java.nio.file.Files;
import java.nio.file.Path;
import java.util.Arrays;
import java.util.HashSet;
import java.util.List;
import java.util.Set;
import java.util.regex.Matcher;
import java.util.regex.Pattern;

/** The program keeps to those rules of LANGUAGE.md that can be seen in its text. */
public final class FormTest {
    private static final String[] FORBIDDEN = {"package", "import", "throw", "throws", "try", "catch", "finally",
        "synchronized", "assert", "volatile", "native", "protected", "Object", "Class", "Thread", "Runtime", "Random"};
    private static final Set<String> LIBRARY = new HashSet<>(Arrays.asList("System.arraycopy", "Math.max", "Math.min",
        "Math.abs", "Integer.bitCount"));
    private static final int MOST_LINES = 60;
    private static final int MOST_CLASSES = 12;
    private static final int MOST_FIELDS = 20;
    private static final int MOST_PARAMETERS = 7;

    private static int wrong = 0;

    public static void main(String[] args) throws IOException {
        String text = Files.readString(Path.of(System.getProperty("root", "."), "src/main/java/ThankedMoves.java"));
        due("rule 4: signs of 1 to 127", text.chars().allMatch(sign -> sign >= 1 && sign <= 127));
        String code = bare(text);
        words(code);
        library(code);
        statics(code);
        methods(code);
        classes(code);
        System.out.println(wrong == 0 ? "the form is as due" : wrong + " faults of form");
        System.exit(wrong == 0 ? 0 : 1);
    }

    private static void due(String rule, boolean holds) {
        if (!holds) {
            wrong++;
            System.out.println(rule);
        }
    }

    /** The text without comments, and with nothing in its strings. */
    private static String bare(String text) {
        return text.replaceAll("(?s)/\\*.*?\\*/", "").replaceAll("\"[^\"\n]*\"", "\"\"").replaceAll("//[^\n]*", "");
    }

    private static void words(String code) {
        for (String word : FORBIDDEN) {
            due("rules 4 to 6: " + word, !Pattern.compile("\\b" + word + "\\b").matcher(code).find());
        }
        due("rule 2: a lambda", !code.contains("->"));
        due("rule 2: a method reference", !code.contains("::"));
        due("rule 3: arrays of arrays", !code.contains("[][]"));
        due("rule 10: texts joined by +", !code.contains("\" +") && !code.contains("+ \""));
        due("rule 8: a loop without a test", !Pattern.compile("while \\(true\\)|for \\([^;]*; *;").matcher(code).find());
    }

    private static void library(String code) {
        Matcher call = Pattern.compile("\\b(System|Math|Integer|Long|Arrays|String|Character)\\.(\\w+)").matcher(code);
        while (call.find()) {
            due("rule 4: " + call.group(), LIBRARY.contains(call.group()));
        }
        Matcher made = Pattern.compile("\\bnew (\\w+)").matcher(code);
        List<String> ours = List.of("int", "long", "Town", "Text", "Tape", "Reader", "Street", "Cart");
        while (made.find()) {
            due("rule 3: new " + made.group(1), ours.contains(made.group(1)));
        }
    }

    private static void statics(String code) {
        Matcher field = Pattern.compile("\\bstatic ([^;({]*)[=;]").matcher(code);
        while (field.find()) {
            due("rule 5: static " + field.group(1), field.group(1).startsWith("final int ")
                    || field.group(1).startsWith("final String "));
        }
        due("rule 5: a static block", !Pattern.compile("\\bstatic \\{").matcher(code).find());
    }

    private static void methods(String code) {
        Pattern heading = Pattern.compile("(?m)^( +)((?:public |private |static |final )*)[\\w\\[\\]]+ (\\w+)\\(([^)]*)\\) \\{$");
        Set<String> open = new HashSet<>();
        Set<String> closed = new HashSet<>();
        Matcher method = heading.matcher(code);
        int count = 0;
        while (method.find()) {
            count++;
            String end = "\n" + method.group(1) + "}\n";
            String body = code.substring(method.end(), code.indexOf(end, method.end()));
            due("rule 11: the length of " + method.group(3), body.lines().count() <= MOST_LINES);
            int parameters = method.group(4).isBlank() ? 0 : method.group(4).split(",").length;
            due("rule 11: the parameters of " + method.group(3), parameters <= MOST_PARAMETERS);
            (method.group(2).contains("public") ? open : closed).add(method.group(3));
        }
        due("the methods are found", count > 120);
        closed.retainAll(open);
        due("rule 1: names of public methods: " + closed, closed.isEmpty());
    }

    private static void classes(String code) {
        Matcher type = Pattern.compile("(?m)^( *)((?:public |private |static |final )*)class (\\w+) \\{$").matcher(code);
        int count = 0;
        while (type.find()) {
            count++;
            due("rule 2: " + type.group(3), type.group(1).isEmpty() || type.group(2).contains("static"));
            String body = code.substring(type.end(), code.indexOf("\n" + type.group(1) + "}\n", type.end()));
            String indent = type.group(1) + "    ";
            long fields = body.lines().filter(line -> line.matches(indent + "(?!public)(private |final )*[\\w\\[\\]]+ \\w+( =.*)?;"))
                    .filter(line -> !line.trim().startsWith("return")).count();
            due("rule 11: the fields of " + type.group(3), fields <= MOST_FIELDS);
        }
        due("rule 11: " + count + " classes", count > 1 && count <= MOST_CLASSES);
    }
}
