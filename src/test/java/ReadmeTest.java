import java.io.ByteArrayOutputStream;
import java.io.IOException;
import java.io.PrintStream;
import java.lang.reflect.Method;
import java.lang.reflect.Modifier;
import java.net.URL;
import java.net.URLClassLoader;
import java.nio.charset.StandardCharsets;
import java.nio.file.Files;
import java.nio.file.Path;
import java.util.ArrayList;
import java.util.Collections;
import java.util.List;
import java.util.regex.Matcher;
import java.util.regex.Pattern;
import javax.tools.ToolProvider;

/**
 * README.md: its example prints what it says, and its tables have each call of the face with what it
 * takes and throws. Run in the project's folder.
 */
public final class ReadmeTest {
    private static final Pattern ROW = Pattern.compile("\\| `(\\w+ \\w+\\([\\w, ]*\\))` \\|(.*)\\|(.*)\\|(.*)\\|");

    public static void main(String[] args) throws ReflectiveOperationException, IOException {
        String readme = Files.readString(Path.of("README.md"));
        example(readme);
        calls(readme);
        files(readme);
        Check.finish("ReadmeTest");
    }

    private static String block(String readme, String kind) {
        Matcher block = Pattern.compile("(?s)```" + kind + "\n(.*?)```").matcher(readme);
        Check.is("a block of " + kind, block.find(), true);
        return block.group(1);
    }

    private static void example(String readme) throws ReflectiveOperationException, IOException {
        Path folder = Files.createTempDirectory("readme");
        Path source = folder.resolve("Evening.java");
        Files.writeString(source, block(readme, "java"));
        int code = ToolProvider.getSystemJavaCompiler().run(null, null, null, "-proc:none",
                "-cp", System.getProperty("java.class.path"), "-d", folder.toString(), source.toString());
        Check.is("the example can be compiled", code, 0);
        PrintStream out = System.out;
        ByteArrayOutputStream printed = new ByteArrayOutputStream();
        System.setOut(new PrintStream(printed, true, StandardCharsets.UTF_8));
        try (URLClassLoader loader = new URLClassLoader(new URL[] {folder.toUri().toURL()})) {
            Method main = loader.loadClass("Evening").getMethod("main", String[].class);
            main.invoke(null, (Object) new String[0]);
        } finally {
            System.setOut(out);
            Files.delete(folder.resolve("Evening.class"));
            Files.delete(source);
            Files.delete(folder);
        }
        List<String> lines = printed.toString(StandardCharsets.UTF_8).lines().toList();
        Check.is("what the example prints", lines, block(readme, "text").lines().toList());
    }

    private static void calls(String readme) {
        List<String> written = new ArrayList<>();
        for (String line : readme.lines().toList()) {
            Matcher row = ROW.matcher(line);
            if (row.matches()) {
                written.add(asWritten(row));
                Check.is("says what it answers: " + line, row.group(3).isBlank(), false);
                boolean takes = !row.group(1).endsWith("()");
                Check.is("says what it takes: " + line, row.group(2).isBlank(), !takes);
            }
        }
        List<String> due = new ArrayList<>();
        for (Method method : TightFive.class.getDeclaredMethods()) {
            if (Modifier.isPublic(method.getModifiers())) {
                due.add(FaceTest.written(method));
            }
        }
        Collections.sort(written);
        Collections.sort(due);
        Check.is("the calls and what they throw, in order", written, due);
    }

    /** A row's call without its arguments' names, and the exceptions, as FaceTest writes a method. */
    private static String asWritten(Matcher row) {
        StringBuilder text = new StringBuilder(row.group(1).replaceAll("(int|char) \\w+([,)])", "$1$2"));
        Matcher thrown = Pattern.compile("`(\\w+)Exception`: ").matcher(row.group(4));
        while (thrown.find()) {
            text.append(' ').append(thrown.group(1));
        }
        return text.toString();
    }

    private static void files(String readme) {
        Matcher file = Pattern.compile("`([\\w./]+\\.(?:java|md))`").matcher(readme);
        int many = 0;
        while (file.find()) {
            String name = file.group(1);
            boolean isThere = Files.exists(Path.of(name)) || Files.exists(Path.of("src/test/java", name));
            Check.is(name + " is there", isThere || name.equals("Evening.java"), true);
            many++;
        }
        Check.is("files are named", many > 5, true);
    }
}
