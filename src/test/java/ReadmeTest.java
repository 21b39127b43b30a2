import java.net.URL;
import java.net.URLClassLoader;
import java.nio.file.Files;
import java.nio.file.Path;
import java.util.ArrayList;
import java.util.List;
import java.util.regex.Matcher;
import java.util.regex.Pattern;
import javax.tools.ToolProvider;

/** The examples of README.md, compiled as they stand there: each answer is what the comment behind the call says. */
public final class ReadmeTest {
    private static final Due T = new Due("ReadmeTest");
    private static final Pattern EXAMPLE = Pattern.compile("^(\\w+\\.\\w+\\(.*\\)); // (-?\\d+|[A-Z]+)(:.*)?$");
    private static final String CONSTANTS =
        "    static final int NONE = -1, UNKNOWN = -101, OUTSIDE = -102, STATE = -103, FULL = -104;\n";

    private static int examples;

    private ReadmeTest() {
    }

    public static void main(String[] args) throws Exception {
        List<String> lines = Files.readAllLines(Path.of(System.getProperty("readme")));
        Path place = Files.createTempDirectory("readme");
        try {
            runIn(place, program(lines));
        } finally {
            clear(place);
        }
        everyCallIsNamed(String.join("\n", lines));
        T.end();
    }

    /** The examples call this one. */
    public static void due(String call, long got, long want) {
        examples++;
        T.due(call, got, want);
    }

    private static void runIn(Path place, String program) throws Exception {
        Path source = Files.writeString(place.resolve("Examples.java"), program);
        int wrong = ToolProvider.getSystemJavaCompiler().run(null, null, null,
            "-cp", System.getProperty("java.class.path"), "-d", place.toString(), source.toString());
        T.due("the examples are compiled with", wrong, 0);
        if (wrong != 0) {
            return;
        }
        try (URLClassLoader loader = new URLClassLoader(new URL[] {place.toUri().toURL()})) {
            loader.loadClass("Examples").getMethod("run").invoke(null);
        }
        T.due("examples were found", examples > 60 ? 1 : 0, 1);
    }

    /** Blocks that begin with "static" are methods, all others are run one behind the other. */
    private static String program(List<String> lines) {
        StringBuilder methods = new StringBuilder();
        StringBuilder run = new StringBuilder();
        for (List<String> block : blocks(lines)) {
            StringBuilder to = block.get(0).startsWith("static ") ? methods : run;
            for (String line : block) {
                to.append(compared(line)).append('\n');
            }
        }
        return "public final class Examples {\n" + CONSTANTS + methods
            + "public static void run() {\n" + run + "}\n}\n";
    }

    private static List<List<String>> blocks(List<String> lines) {
        List<List<String>> blocks = new ArrayList<>();
        boolean inside = false;
        for (String line : lines) {
            if (line.startsWith("```")) {
                inside = line.equals("```java");
                if (inside) {
                    blocks.add(new ArrayList<>());
                }
            } else if (inside) {
                blocks.get(blocks.size() - 1).add(line);
            }
        }
        return blocks;
    }

    private static String compared(String line) {
        Matcher example = EXAMPLE.matcher(line);
        if (!example.matches()) {
            T.due("a comment that is no answer: " + line, line.contains("//") ? 1 : 0, 0);
            return line;
        }
        String call = example.group(1);
        return "ReadmeTest.due(\"" + call.replace("\"", "\\\"") + "\", " + call + ", " + example.group(2) + ");";
    }

    private static void everyCallIsNamed(String readme) {
        for (java.lang.reflect.Method method : AsWasSaid.class.getDeclaredMethods()) {
            if (java.lang.reflect.Modifier.isPublic(method.getModifiers())) {
                T.due(method.getName() + "() is named", readme.contains(method.getName() + "(") ? 1 : 0, 1);
            }
        }
    }

    private static void clear(Path place) throws Exception {
        try (var files = Files.list(place)) {
            for (Path file : files.toList()) {
                Files.delete(file);
            }
        }
        Files.delete(place);
    }
}
