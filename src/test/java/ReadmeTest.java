import java.io.IOException;
import java.lang.reflect.Method;
import java.net.URL;
import java.net.URLClassLoader;
import java.nio.file.Files;
import java.nio.file.Path;
import java.util.ArrayList;
import java.util.List;
import java.util.regex.Matcher;
import java.util.regex.Pattern;
import javax.tools.ToolProvider;

/** Runs the lines of Java that README.md shows, with the answers that it tells; and it must name every test. */
public final class ReadmeTest {
    private static final Due DUE = new Due("ReadmeTest");
    private static final Path README = Path.of("README.md");
    private static final Pattern TOLD = Pattern.compile("\\s*(x\\.(\\w+)\\(.*\\));\\s*// (-?\\d+): .*");

    public static void main(String[] args) throws IOException, ReflectiveOperationException {
        List<String> lines = Files.readAllLines(README);
        namesAllTests(String.join("\n", lines));
        Path at = Files.createTempDirectory("readme");
        try {
            run(program(lines), at);
        } finally {
            Files.deleteIfExists(at.resolve("Readme.class"));
            Files.deleteIfExists(at.resolve("Readme.java"));
            Files.deleteIfExists(at);
        }
        DUE.end();
    }

    /** What a line of README.md answers; public, since another loader brings these lines. */
    public static void told(String line, long got, long want) {
        DUE.is(line, got, want);
    }

    private static void namesAllTests(String readme) throws IOException {
        try (var tests = Files.newDirectoryStream(Path.of("src/test/java"), "*Test.java")) {
            for (Path test : tests) {
                String name = test.getFileName().toString().replace(".java", "");
                DUE.is("README.md names " + name, readme.contains("`" + name + "`") ? 1 : 0, 1);
            }
        }
    }

    private static String program(List<String> lines) {
        StringBuilder all = new StringBuilder("final class Readme {\n    public static void main(String[] args) {\n");
        List<String> calls = new ArrayList<>();
        boolean java = false;
        for (String line : lines) {
            if (line.startsWith("```")) {
                java = line.equals("```java");
            } else if (java) {
                Matcher told = TOLD.matcher(line);
                boolean is = told.matches();
                DUE.is("README.md: " + line + " tells an answer", is || !line.contains("//") ? 1 : 0, 1);
                all.append(is ? "ReadmeTest.told(\"" + told.group(1) + "\", " + told.group(1) + ", " + told.group(3) + ");" : line);
                all.append('\n');
                calls.add(line);
            }
        }
        DUE.is("README.md shows lines of Java", calls.isEmpty() ? 0 : 1, 1);
        return all.append("    }\n}\n").toString();
    }

    private static void run(String program, Path at) throws IOException, ReflectiveOperationException {
        Path source = Files.writeString(at.resolve("Readme.java"), program);
        String classes = System.getProperty("java.class.path");
        int no = ToolProvider.getSystemJavaCompiler().run(null, null, null, "-cp", classes, "-d", at.toString(), source.toString());
        DUE.is("javac of README.md's lines", no, 0);
        if (no == 0) {
            try (URLClassLoader loader = new URLClassLoader(new URL[] {at.toUri().toURL()})) {
                Method main = loader.loadClass("Readme").getDeclaredMethod("main", String[].class);
                main.setAccessible(true);
                main.invoke(null, (Object) new String[0]);
            }
        }
    }
}
