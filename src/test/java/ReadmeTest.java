import java.io.File;
import java.io.IOException;
import java.lang.reflect.Method;
import java.lang.reflect.Modifier;
import java.nio.file.Files;
import java.nio.file.Path;
import java.util.ArrayList;
import java.util.Comparator;
import java.util.List;
import java.util.regex.Matcher;
import java.util.regex.Pattern;
import java.util.stream.Stream;

/**
 * README.md holds: its examples answer what stands beside them, its commands run from a clean
 * copy of the project, and it names every call.
 */
public final class ReadmeTest {
    private static final Pattern BLOCK = Pattern.compile("(?ms)^```(\\w+)\n(.*?)^```$");

    /** A call and what it answers, up to the end of the line or a colon and some words. */
    private static final Pattern ANSWERED = Pattern.compile("(?:int (\\w+) = )?(.*);\\s*// (-?\\d+|true|false)(: .*)?");

    private static int wrong = 0;

    public static void main(String[] args) throws Exception {
        Path root = Path.of(System.getProperty("root", ".")).toRealPath();
        Path shared = Path.of(System.getProperty("shared", "../shared")).toRealPath();
        String readme = Files.readString(root.resolve("README.md"));
        Path place = Files.createTempDirectory("readme");
        try {
            Path project = copy(root, shared, place);
            examples(blocks(readme, "java"), project);
            commands(blocks(readme, "sh"), project);
        } finally {
            remove(place);
        }
        names(readme);
        System.out.println(wrong == 0 ? "README.md is as due" : wrong + " faults of README.md");
        System.exit(wrong == 0 ? 0 : 1);
    }

    private static void fail(String what) {
        wrong++;
        System.out.println("README.md: " + what);
    }

    private static List<String> blocks(String readme, String kind) {
        List<String> all = new ArrayList<>();
        Matcher block = BLOCK.matcher(readme);
        while (block.find()) {
            if (block.group(1).equals(kind)) {
                all.add(block.group(2));
            }
        }
        if (all.isEmpty()) {
            fail("nothing of " + kind);
        }
        return all;
    }

    /** The sources alone, with the shared documents beside them as in a clean checkout. */
    private static Path copy(Path root, Path shared, Path place) throws IOException {
        Path project = place.resolve("main");
        try (Stream<Path> files = Files.walk(root.resolve("src"))) {
            for (Path file : (Iterable<Path>) files::iterator) {
                Path to = project.resolve(root.relativize(file).toString());
                Files.createDirectories(to.getParent());
                Files.copy(file, to);
            }
        }
        Files.createSymbolicLink(place.resolve("shared"), shared);
        return project;
    }

    private static void remove(Path place) throws IOException {
        try (Stream<Path> files = Files.walk(place)) {
            files.sorted(Comparator.reverseOrder()).map(Path::toFile).forEach(File::delete);
        }
    }

    private static void examples(List<String> blocks, Path project) throws Exception {
        StringBuilder functions = new StringBuilder();
        StringBuilder calls = new StringBuilder();
        int answers = 0;
        for (String block : blocks) {
            if (block.startsWith("static ")) {
                functions.append(block);
                continue;
            }
            for (String line : block.split("\n")) {
                Matcher answered = ANSWERED.matcher(line);
                if (answered.matches()) {
                    answers++;
                    calls.append(asked(answered));
                } else if (line.contains("//")) {
                    fail("a comment without an answer: " + line);
                } else {
                    calls.append(line).append('\n');
                }
            }
        }
        if (answers < 30) {
            fail("only " + answers + " answers");
        }
        String program = "public class Example {\nstatic int wrong = 0;\n"
                + "static void due(String call, Object got, Object want) {\nif (!got.equals(want)) {\nwrong++;\n"
                + "System.out.println(call + \" answered \" + got + \", README.md says \" + want);\n}\n}\n"
                + functions + "public static void main(String[] args) {\n" + calls
                + "System.exit(wrong == 0 ? 0 : 1);\n}\n}\n";
        Files.writeString(project.resolve("Example.java"), program);
        run("javac -d example src/main/java/ThankedMoves.java Example.java\njava -cp example Example\n", project);
    }

    private static String asked(Matcher line) {
        String name = line.group(1);
        String call = line.group(2);
        String quoted = "\"" + call.replace("\"", "\\\"") + "\"";
        String before = name == null ? "" : "int " + name + " = " + call + ";\n";
        return before + "due(" + quoted + ", " + (name == null ? call : name) + ", " + line.group(3) + ");\n";
    }

    private static void commands(List<String> blocks, Path project) throws Exception {
        for (String block : blocks) {
            run(block, project);
        }
    }

    private static void run(String commands, Path project) throws Exception {
        Process process = new ProcessBuilder("sh", "-e", "-c", commands)
                .directory(project.toFile()).redirectErrorStream(true).start();
        process.getOutputStream().close();
        String said = new String(process.getInputStream().readAllBytes());
        if (process.waitFor() != 0) {
            fail("this ends wrongly:\n" + commands + said);
        }
    }

    private static void names(String readme) {
        for (Method method : ThankedMoves.class.getDeclaredMethods()) {
            if (Modifier.isPublic(method.getModifiers()) && !readme.contains("`" + method.getName() + "`")) {
                fail("no word of " + method.getName());
            }
        }
    }
}
