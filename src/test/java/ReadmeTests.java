import java.io.IOException;
import java.net.URL;
import java.net.URLClassLoader;
import java.nio.file.DirectoryStream;
import java.nio.file.Files;
import java.nio.file.Path;
import java.util.ArrayList;
import java.util.List;
import java.util.regex.Matcher;
import java.util.regex.Pattern;
import javax.tools.ToolProvider;

/** What README.md says is true: its example answers as it tells, and it names the tests that there are. */
public final class ReadmeTests {
    private static final Pattern ANSWERED = Pattern.compile("(organ\\.\\w+\\(.*\\)); *// = ([^,]*)(?:,.*)?");
    private static final int FEWEST_ANSWERS = 10;

    private static int wrong = 0;

    public static void main(String[] args) throws IOException, ReflectiveOperationException {
        List<String> lines = Files.readAllLines(Path.of("README.md"));
        runExample(lines);
        findTests(String.join("\n", lines), Files.readString(Path.of(".ci/run")));
        if (wrong > 0) {
            System.exit(1);
        }
        System.out.println("what README.md says is true");
    }

    private static void due(boolean is, String what) {
        if (!is) {
            wrong++;
            System.out.println(what);
        }
    }

    private static void runExample(List<String> lines) throws IOException, ReflectiveOperationException {
        StringBuilder program = new StringBuilder("public final class Example {\npublic static void main(String[] got) {\n");
        List<String> told = new ArrayList<>();
        for (String line : lines.subList(lines.indexOf("```java") + 1, lines.lastIndexOf("```"))) {
            Matcher answered = ANSWERED.matcher(line);
            if (answered.matches()) {
                program.append("got[").append(told.size()).append("] = String.valueOf(").append(answered.group(1)).append(");\n");
                told.add(answered.group(2));
            } else {
                due(!line.contains("// ="), "no call that answers: " + line);
                program.append(line).append('\n');
            }
        }
        due(told.size() >= FEWEST_ANSWERS, "the example tells " + told.size() + " answers");
        String[] got = answersOf(program.append("}\n}\n").toString(), told.size());
        for (int i = 0; i < got.length; i++) {
            due(told.get(i).equals(got[i]), "the example tells " + told.get(i) + " as answer " + i + ", but it is " + got[i]);
        }
    }

    private static String[] answersOf(String program, int count) throws IOException, ReflectiveOperationException {
        Path folder = Files.createTempDirectory("readme");
        Path source = Files.writeString(folder.resolve("Example.java"), program);
        Path compiled = folder.resolve("Example.class");
        String[] got = new String[count];
        try {
            int failed = ToolProvider.getSystemJavaCompiler().run(null, null, null,
                    "-cp", System.getProperty("java.class.path"), "-d", folder.toString(), source.toString());
            due(failed == 0, "the example cannot be compiled");
            if (failed == 0) {
                try (URLClassLoader loader = new URLClassLoader(new URL[] {folder.toUri().toURL()})) {
                    loader.loadClass("Example").getMethod("main", String[].class).invoke(null, (Object) got);
                }
            }
        } finally {
            Files.deleteIfExists(compiled);
            Files.delete(source);
            Files.delete(folder);
        }
        return got;
    }

    private static void findTests(String readme, String run) throws IOException {
        try (DirectoryStream<Path> found = Files.newDirectoryStream(Path.of("src/test/java"), "*Tests.java")) {
            for (Path test : found) {
                String name = test.getFileName().toString().replace(".java", "");
                due(readme.contains("- `" + name + "`: "), "README.md does not name " + name);
                due(run.contains(" " + name + "\n") || run.contains(" " + name + " "), ".ci/run does not run " + name);
            }
        }
        Matcher named = Pattern.compile("`((?:src/|\\.ci/)[\\w./]+)`").matcher(readme);
        while (named.find()) {
            due(Files.exists(Path.of(named.group(1))), "there is no " + named.group(1));
        }
    }
}
