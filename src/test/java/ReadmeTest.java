import java.io.ByteArrayOutputStream;
import java.io.IOException;
import java.lang.reflect.Method;
import java.net.URL;
import java.net.URLClassLoader;
import java.nio.charset.StandardCharsets;
import java.nio.file.Files;
import java.nio.file.Path;
import java.util.ArrayList;
import java.util.List;
import java.util.regex.Matcher;
import java.util.regex.Pattern;
import javax.tools.JavaCompiler;
import javax.tools.ToolProvider;

/** What README.md tells to type is compiled as it stands there, and answers what it says. */
public final class ReadmeTest {
    private static final Pattern CALL = Pattern.compile("(house\\.(\\w+)\\(.*?\\));\\s+// (-?\\d+)\\b.*");
    private static final String[] SHOWN = {"feed", "end", "load", "place", "set", "enter", "train", "leave", "tick",
        "journey", "option", "leg", "line", "dispatch", "turn"};

    private final List<String> calls = new ArrayList<>();
    private final List<Integer> answers = new ArrayList<>();
    private final List<String> names = new ArrayList<>();
    private final StringBuilder steps = new StringBuilder();
    private final StringBuilder helpers = new StringBuilder();

    public static void main(String[] args) throws Exception {
        new ReadmeTest().checkAll();
        Check.end("ReadmeTest");
    }

    private void checkAll() throws Exception {
        for (List<String> block : javaBlocks(Files.readAllLines(Path.of("README.md"), StandardCharsets.UTF_8))) {
            readBlock(block);
        }
        for (String name : SHOWN) {
            Check.due("README.md shows " + name, names.contains(name));
        }
        int[] got = runProgram();
        Check.due("calls of README.md that were made", got.length, calls.size());
        for (int i = 0; i < Math.min(got.length, calls.size()); i++) {
            Check.due("README.md: " + calls.get(i), got[i], answers.get(i));
        }
    }

    private static List<List<String>> javaBlocks(List<String> lines) {
        List<List<String>> blocks = new ArrayList<>();
        List<String> open = null;
        for (String line : lines) {
            if (line.startsWith("```")) {
                open = line.equals("```java") ? new ArrayList<>() : null;
                if (open != null) {
                    blocks.add(open);
                }
            } else if (open != null) {
                open.add(line);
            }
        }
        return blocks;
    }

    /** A block is a method of its own, or steps of the one program, each call with its answer. */
    private void readBlock(List<String> block) {
        if (block.get(0).startsWith("static ")) {
            helpers.append(String.join("\n", block)).append('\n');
            return;
        }
        for (String line : block) {
            Matcher call = CALL.matcher(line);
            if (call.matches()) {
                calls.add(call.group(1));
                names.add(call.group(2));
                answers.add(Integer.valueOf(call.group(3)));
                steps.append("all.add(").append(call.group(1)).append(");\n");
            } else {
                Check.due("README.md tells the answer of " + line, !line.startsWith("house."));
                steps.append(line).append('\n');
            }
        }
    }

    private int[] runProgram() throws Exception {
        Path place = Files.createTempDirectory("readme");
        Path source = place.resolve("Program.java");
        Files.writeString(source, "public final class Program {\n" + helpers
                + "public static int[] answers() {\njava.util.List<Integer> all = new java.util.ArrayList<>();\n" + steps
                + "return all.stream().mapToInt(Integer::intValue).toArray();\n}\n}\n");
        try {
            return compile(place, source) ? answersOf(place) : new int[0];
        } finally {
            removeAll(place);
        }
    }

    private static boolean compile(Path place, Path source) {
        JavaCompiler compiler = ToolProvider.getSystemJavaCompiler();
        ByteArrayOutputStream faults = new ByteArrayOutputStream();
        int failed = compiler.run(null, faults, faults, "-cp", System.getProperty("java.class.path"),
                "-d", place.toString(), source.toString());
        if (failed != 0) {
            System.out.print(faults.toString(StandardCharsets.UTF_8));
        }
        Check.due("the program of README.md is compiled", failed, 0);
        return failed == 0;
    }

    private static int[] answersOf(Path place) throws Exception {
        try (URLClassLoader loader = new URLClassLoader(new URL[] {place.toUri().toURL()})) {
            Method answers = loader.loadClass("Program").getMethod("answers");
            return (int[]) answers.invoke(null);
        }
    }

    private static void removeAll(Path place) throws IOException {
        try (var files = Files.list(place)) {
            for (Path file : files.toList()) {
                Files.delete(file);
            }
        }
        Files.delete(place);
    }
}
