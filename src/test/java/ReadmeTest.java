import java.net.URI;
import java.nio.file.Files;
import java.nio.file.Path;
import java.util.ArrayList;
import java.util.List;
import java.util.regex.Matcher;
import java.util.regex.Pattern;
import javax.tools.JavaFileObject;
import javax.tools.SimpleJavaFileObject;
import javax.tools.ToolProvider;

/** Takes the example out of README.md, compiles and runs it: it prints what its comments say. */
public final class ReadmeTest {
    private static final Pattern EXAMPLE = Pattern.compile("```java\n(.*?)```", Pattern.DOTALL);
    private static final Pattern PRINTED = Pattern.compile("System\\.out\\.println\\(.*\\); *// (-?\\d+)");

    private static final class Source extends SimpleJavaFileObject {
        private final String text;

        Source(String text) {
            super(URI.create("string:///Demo.java"), JavaFileObject.Kind.SOURCE);
            this.text = text;
        }

        @Override
        public CharSequence getCharContent(boolean ignoreEncodingErrors) {
            return text;
        }
    }

    private static String run(String example) throws Exception {
        Path out = Path.of("build", "readme");
        Files.createDirectories(out);
        String path = System.getProperty("java.class.path");
        List<String> options = List.of("-d", out.toString(), "-cp", path);
        if (!ToolProvider.getSystemJavaCompiler().getTask(null, null, null, options, null, List.of(new Source(example))).call()) {
            return "does not compile";
        }
        Process process = new ProcessBuilder("java", "-cp", out + java.io.File.pathSeparator + path, "Demo").redirectErrorStream(true).start();
        String printed = new String(process.getInputStream().readAllBytes());
        process.waitFor();
        return printed;
    }

    public static void main(String[] args) throws Exception {
        Matcher example = EXAMPLE.matcher(Files.readString(Path.of("README.md")));
        if (!example.find()) {
            System.out.println("README.md has no example");
            System.exit(1);
        }
        List<String> want = new ArrayList<>();
        Matcher printed = PRINTED.matcher(example.group(1));
        while (printed.find()) {
            want.add(printed.group(1));
        }
        List<String> got = run(example.group(1)).lines().toList();
        System.out.println("README.md's example: " + want.size() + " answers looked at");
        if (want.isEmpty() || !got.equals(want)) {
            System.out.println("it printed " + got + ", its comments say " + want);
            System.exit(1);
        }
    }
}
