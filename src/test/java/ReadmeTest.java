import java.io.IOException;
import java.io.InputStream;
import java.lang.reflect.Method;
import java.nio.charset.StandardCharsets;
import java.nio.file.Files;
import java.nio.file.Path;
import java.util.ArrayList;
import java.util.List;
import java.util.Map;
import java.util.Set;
import java.util.TreeMap;
import java.util.TreeSet;
import java.util.regex.Matcher;
import java.util.regex.Pattern;
import java.util.stream.Stream;

/** What README.md says of the class's use and of the commands is so. Runs in the project's directory. */
public final class ReadmeTest {
    private static final Pattern ANSWERED = Pattern.compile("(tree\\.\\w+\\(.*\\)); *// (-?\\d+)\\b.*");
    private static final Pattern CALL_OF_TABLE = Pattern.compile("\\| `(\\w+)\\(([^)]*)\\)` \\|.*");
    private static final Pattern TEST_OF_LIST = Pattern.compile("- `(\\w+)`: .*");
    private static int wrong = 0;
    private static int checked = 0;

    private static void due(String what, Object got, Object want) {
        checked++;
        if (!got.equals(want)) {
            wrong++;
            System.out.println(what + " is " + got + ", due is " + want);
        }
    }

    public static void main(String[] args) throws IOException, InterruptedException {
        List<String> readme = Files.readAllLines(Path.of("README.md"));
        Path work = Files.createTempDirectory("readme");
        try {
            example(readme, work);
            calls(readme);
            commands(readme, work);
            listOfTests(readme);
        } finally {
            remove(work);
        }
        System.out.println(checked + " checks, " + wrong + " wrong");
        if (wrong != 0) {
            System.exit(1);
        }
    }

    private static List<String> blocksOf(List<String> readme, String language) {
        List<String> lines = new ArrayList<>();
        boolean isInside = false;
        for (String line : readme) {
            if (line.startsWith("```")) {
                isInside = line.equals("```" + language);
            } else if (isInside) {
                lines.add(line);
            }
        }
        return lines;
    }

    /** The example is compiled as it stands, with a look at each call whose answer is said. */
    private static void example(List<String> readme, Path work) throws IOException, InterruptedException {
        StringBuilder program = new StringBuilder("public final class Example {\n");
        program.append("static void look(String call, long got, long due) {\n");
        program.append("if (got != due) { System.out.println(call + \" answers \" + got); System.exit(1); } }\n");
        program.append("public static void main(String[] args) {\n");
        int answers = 0;
        for (String line : blocksOf(readme, "java")) {
            Matcher answered = ANSWERED.matcher(line);
            if (answered.matches()) {
                answers++;
                String call = answered.group(1);
                program.append("look(\"" + call + "\", " + call + ", " + answered.group(2) + "L);\n");
            } else {
                program.append(line).append('\n');
            }
        }
        program.append("} }\n");
        due("that the example tells answers", answers > 0, true);
        Path file = Files.writeString(work.resolve("Example.java"), program);
        String javac = "javac --release 17 -d " + work + " src/main/java/ClockTree.java " + file;
        due("the end of the example's javac", run(javac), 0);
        due("the end of the example", run("java -cp " + work + " Example"), 0);
    }

    private static void calls(List<String> readme) {
        Map<String, Integer> said = new TreeMap<>();
        for (String line : readme) {
            Matcher call = CALL_OF_TABLE.matcher(line);
            if (call.matches()) {
                String parameters = call.group(2);
                said.put(call.group(1), parameters.isEmpty() ? 0 : parameters.split(",").length);
            }
        }
        Map<String, Integer> face = new TreeMap<>();
        for (Method method : ClockTree.class.getMethods()) {
            if (method.getDeclaringClass() == ClockTree.class) {
                face.put(method.getName(), method.getParameterCount());
            }
        }
        due("the table of calls", said, face);
    }

    /** .ci/run is looked at alone, for it is what runs this test. */
    private static void commands(List<String> readme, Path work) throws IOException, InterruptedException {
        boolean tellsRun = false;
        for (String command : blocksOf(readme, "sh")) {
            if (command.equals(".ci/run")) {
                tellsRun = true;
                due("that .ci/run can be run", Files.isExecutable(Path.of(command)), true);
            } else {
                due("the end of " + command, run(command.replace(" build ", " " + work.resolve("build") + " ")), 0);
            }
        }
        due("that .ci/run is told", tellsRun, true);
    }

    private static void listOfTests(List<String> readme) throws IOException {
        Set<String> said = new TreeSet<>();
        for (String line : readme) {
            Matcher test = TEST_OF_LIST.matcher(line);
            if (test.matches() && test.group(1).contains("Test")) {
                said.add(test.group(1) + ".java");
            }
        }
        Set<String> there = new TreeSet<>();
        try (Stream<Path> files = Files.list(Path.of("src/test/java"))) {
            files.forEach(file -> there.add(file.getFileName().toString()));
        }
        due("the list of tests", said, there);
    }

    private static int run(String command) throws IOException, InterruptedException {
        Process process = new ProcessBuilder("sh", "-c", command).redirectErrorStream(true).start();
        process.getOutputStream().close();
        String said;
        try (InputStream output = process.getInputStream()) {
            said = new String(output.readAllBytes(), StandardCharsets.UTF_8);
        }
        int end = process.waitFor();
        if (end != 0) {
            System.out.println(said);
        }
        return end;
    }

    private static void remove(Path path) throws IOException {
        if (Files.isDirectory(path)) {
            List<Path> inside;
            try (Stream<Path> files = Files.list(path)) {
                inside = files.toList();
            }
            for (Path file : inside) {
                remove(file);
            }
        }
        Files.delete(path);
    }
}
