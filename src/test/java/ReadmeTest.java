import java.io.IOException;
import java.lang.reflect.Method;
import java.lang.reflect.Modifier;
import java.net.URL;
import java.net.URLClassLoader;
import java.nio.file.DirectoryStream;
import java.nio.file.Files;
import java.nio.file.Path;
import java.util.regex.Matcher;
import java.util.regex.Pattern;
import javax.tools.JavaCompiler;
import javax.tools.ToolProvider;

/**
 * README.md tells what is so: its examples, compiled and run, answer as it says (a call with its answer as a comment
 * behind it), and it names each call of the class, with its parameters, and each test.
 */
public final class ReadmeTest {
    private static final Pattern ANSWERED = Pattern.compile("(x\\.\\w+\\(.*\\));\\s*// (-?\\d+)\\b.*");
    private static final Path MADE = Path.of("build", "readme");
    private static int wrong = 0;
    private static int answered = 0;

    public static void main(String[] args) throws Exception {
        String page = Files.readString(Path.of("README.md"));
        examples(page);
        calls(page);
        tests(page);
        System.out.println(wrong == 0 ? "ReadmeTest: all as due" : "ReadmeTest: " + wrong + " not as due");
        if (wrong != 0) {
            System.exit(1);
        }
    }

    /** The examples call this for each call that has its answer behind it. */
    public static void due(String call, long got, long want) {
        answered++;
        if (got != want) {
            wrong(call + " answered " + got + ", due is " + want);
        }
    }

    private static void wrong(String what) {
        wrong++;
        System.out.println("README.md: " + what);
    }

    private static void examples(String page) throws Exception {
        Matcher block = Pattern.compile("(?s)```java\n(.*?)```").matcher(page);
        int examples = 0;
        while (block.find()) {
            examples++;
            example("ReadmeExample" + examples, block.group(1));
        }
        if (examples == 0 || answered == 0) {
            wrong("there is no example");
        }
    }

    private static void example(String name, String block) throws Exception {
        StringBuilder body = new StringBuilder();
        for (String line : block.split("\n")) {
            Matcher call = ANSWERED.matcher(line.trim());
            if (call.matches()) {
                String quoted = call.group(1).replace("\"", "\\\"");
                body.append("ReadmeTest.due(\"").append(quoted).append("\", ").append(call.group(1)).append(", ")
                    .append(call.group(2)).append("L);\n");
            } else if (line.trim().startsWith("x.")) {
                wrong("a call without its answer: " + line);
            } else {
                body.append(line).append('\n');
            }
        }
        Files.createDirectories(MADE);
        Path source = MADE.resolve(name + ".java");
        Files.writeString(source, "public final class " + name + " { public static void told() {\n" + body + "} }\n");
        JavaCompiler javac = ToolProvider.getSystemJavaCompiler();
        String classes = System.getProperty("java.class.path");
        if (javac == null || javac.run(null, null, null, "-cp", classes, "-d", MADE.toString(), source.toString()) != 0) {
            wrong("an example can't be compiled: " + source);
            return;
        }
        try (URLClassLoader made = new URLClassLoader(new URL[] {MADE.toUri().toURL()})) {
            made.loadClass(name).getMethod("told").invoke(null);
        }
    }

    private static void calls(String page) {
        for (Method call : WishPins.class.getDeclaredMethods()) {
            if (!Modifier.isPublic(call.getModifiers())) {
                continue;
            }
            Matcher row = Pattern.compile("\n\\| `" + call.getName() + "\\((.*?)\\)` \\|").matcher(page);
            if (!row.find()) {
                wrong("no row for " + call.getName());
            } else if ((row.group(1).isEmpty() ? 0 : row.group(1).split(",").length) != call.getParameterCount()) {
                wrong("other parameters than those of " + call);
            }
        }
    }

    private static void tests(String page) throws IOException {
        try (DirectoryStream<Path> files = Files.newDirectoryStream(Path.of("src", "test", "java"), "*Test.java")) {
            for (Path file : files) {
                String name = file.getFileName().toString().replace(".java", "");
                if (!page.contains("- `" + name + "`:")) {
                    wrong("it doesn't tell of " + name);
                }
            }
        }
    }
}
