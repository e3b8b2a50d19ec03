import java.io.File;
import java.nio.file.Files;
import java.nio.file.Path;
import java.util.List;
import java.util.regex.Matcher;
import java.util.regex.Pattern;
import javax.tools.JavaCompiler;
import javax.tools.StandardJavaFileManager;
import javax.tools.ToolProvider;

/** README's Java example answers as it says behind its arrows; the first argument is the class's source. */
public final class ReadmeExample {
    private static final Pattern EXAMPLE = Pattern.compile("```java\n(.*?)```", Pattern.DOTALL);
    private static final Pattern ANSWERED = Pattern.compile("(?:int (\\w+) = )?(house\\.\\w+\\(.*\\));\\s*// -> (\\S+).*");
    private static int arrows;
    private static int wrong;

    /** Called by the example once it is a program. */
    public static void due(String call, Object got, Object want) {
        arrows++;
        if (!got.equals(want)) {
            wrong++;
            System.out.println("README: " + call + " answered " + got + ", it says " + want);
        }
    }

    /** Each line with an arrow is held against what stands behind it. */
    private static String program(String example) {
        StringBuilder made = new StringBuilder("public final class Shown {\n    public static void show() {\n");
        for (String line : example.split("\n")) {
            Matcher answered = ANSWERED.matcher(line);
            if (!answered.matches()) {
                made.append(line).append('\n');
                continue;
            }
            String kept = answered.group(1);
            String call = answered.group(2);
            if (kept != null) {
                made.append("int ").append(kept).append(" = ").append(call).append(";\n");
            }
            made.append("ReadmeExample.due(\"").append(call).append("\", String.valueOf(")
                    .append(kept == null ? call : kept).append("), \"").append(answered.group(3)).append("\");\n");
        }
        return made.append("    }\n}\n").toString();
    }

    private static void show(String example, Path where) throws Exception {
        Path source = where.resolve("Shown.java");
        Files.writeString(source, program(example));
        JavaCompiler javac = ToolProvider.getSystemJavaCompiler();
        StandardJavaFileManager files = javac.getStandardFileManager(null, null, null);
        List<String> how = List.of("-d", where.toString(), "-cp", where.toString());
        if (!javac.getTask(null, files, null, how, null, files.getJavaFileObjects(source.toFile())).call()) {
            wrong++;
            return;
        }
        Class.forName("Shown").getMethod("show").invoke(null);
    }

    public static void main(String[] args) throws Exception {
        Path home = Path.of(args[0]).toAbsolutePath().getParent().getParent().getParent().getParent();
        Path classes = new File(ReadmeExample.class.getProtectionDomain().getCodeSource().getLocation().toURI()).toPath();
        Matcher example = EXAMPLE.matcher(Files.readString(home.resolve("README.md")));
        while (example.find()) {
            show(example.group(1), classes);
        }
        if (arrows == 0) {
            wrong++;
            System.out.println("README has no example with answers");
        }
        System.out.println(wrong == 0 ? "README answers as it says" : wrong + " of README do not hold");
        if (wrong != 0) {
            System.exit(1);
        }
    }
}
