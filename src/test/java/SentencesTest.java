import java.io.ByteArrayOutputStream;
import java.io.IOException;
import java.io.OutputStream;
import java.io.PrintStream;
import java.lang.reflect.InvocationTargetException;
import java.lang.reflect.Method;
import java.net.MalformedURLException;
import java.net.URI;
import java.net.URL;
import java.net.URLClassLoader;
import java.nio.file.Files;
import java.nio.file.Path;
import java.util.ArrayList;
import java.util.HashMap;
import java.util.List;
import java.util.Map;
import java.util.regex.Matcher;
import java.util.regex.Pattern;
import javax.tools.FileObject;
import javax.tools.ForwardingJavaFileManager;
import javax.tools.JavaCompiler;
import javax.tools.JavaFileManager;
import javax.tools.JavaFileObject;
import javax.tools.SimpleJavaFileObject;
import javax.tools.StandardJavaFileManager;
import javax.tools.ToolProvider;

/**
 * src/test/SENTENCES.md: it has each sentence of the document's terms and promises, its tests are
 * there, and at least one of them fails for each program in which the sentence is spoiled. Run in the
 * project's folder.
 */
public final class SentencesTest {
    private static final Path DOCUMENT = Path.of("../shared/DOC.md");
    private static final Path LIST = Path.of("src/test/SENTENCES.md");
    private static final Path TESTS = Path.of("src/test/java");
    private static final Path PROGRAM = Path.of("src/main/java/TightFive.java");
    private static final String SEEN = "a test fails";

    /** A sentence of the list, the tests that hold it, and what spoils it. */
    private static final class Item {
        final String sentence;
        final List<String> tests = new ArrayList<>();
        final List<Spoiling> spoilings = new ArrayList<>();

        Item(String sentence) {
            this.sentence = sentence;
        }
    }

    /** A piece of the program and another one for its place, by which a sentence does not hold. */
    private static final class Spoiling {
        final Item item;
        final String piece;
        final String other;
        String outcome = "not tried";

        Spoiling(Item item, String piece, String other) {
            this.item = item;
            this.piece = piece;
            this.other = other;
        }
    }

    public static void main(String[] args) throws IOException {
        List<Item> items = itemsOf(LIST);
        compare(items);
        List<Spoiling> spoilings = new ArrayList<>();
        for (Item item : items) {
            Check.is("tests of: " + item.sentence, item.tests.isEmpty(), false);
            Check.is("spoiled programs of: " + item.sentence, item.spoilings.isEmpty(), false);
            for (String test : item.tests) {
                Check.is(test + " is there, and is run", isThere(test), true);
            }
            spoilings.addAll(item.spoilings);
        }
        tryAll(spoilings);
        for (Spoiling spoiling : spoilings) {
            String what = spoiling.item.sentence + ", spoiled: " + spoiling.piece + " => " + spoiling.other;
            Check.is(what, spoiling.outcome, SEEN);
        }
        Check.finish("SentencesTest");
    }

    // --- the document and the list ---

    private static void compare(List<Item> items) throws IOException {
        if (!Files.exists(DOCUMENT)) {
            System.out.println("There is no " + DOCUMENT + " to compare the list with.");
            return;
        }
        List<String> listed = new ArrayList<>();
        for (Item item : items) {
            listed.add(item.sentence);
        }
        List<String> due = sentencesOf(DOCUMENT);
        Check.is("sentences of the document", due.size() > 100, true);
        for (String sentence : due) {
            Check.is("in the list: " + sentence, listed.contains(sentence), true);
        }
        for (String sentence : listed) {
            Check.is("in the document: " + sentence, due.contains(sentence), true);
        }
        Check.is("the list is in the document's order", listed, due);
    }

    /** Each sentence behind the heading under which it stands; of a promise the first two are one. */
    private static List<String> sentencesOf(Path document) throws IOException {
        List<String> sentences = new ArrayList<>();
        String part = "";
        String heading = "";
        for (String line : Files.readAllLines(document)) {
            if (line.startsWith("## ")) {
                heading = line.substring(3);
                part = heading.startsWith("Promise ") ? "Promise" : heading;
            } else if (part.equals("Terms") && !line.isEmpty()) {
                heading = addTerms(sentences, heading, line);
            } else if (part.equals("Promise")) {
                addPromised(sentences, heading, line);
            }
        }
        return sentences;
    }

    /** A paragraph of the terms begins with what it is about; answers with that. */
    private static String addTerms(List<String> sentences, String heading, String line) {
        if (line.startsWith("- ")) {
            sentences.add(heading + " / " + line.substring(2));
            return heading;
        }
        Matcher paragraph = Pattern.compile("([A-Za-z ]+)[.:] (.*)").matcher(line);
        Check.is("a paragraph with its title: " + line, paragraph.matches(), true);
        for (String sentence : paragraph.group(2).split("(?<=\\.) (?=[A-Z])")) {
            sentences.add(paragraph.group(1) + " / " + sentence);
        }
        return paragraph.group(1);
    }

    private static void addPromised(List<String> sentences, String heading, String line) {
        int last = sentences.size() - 1;
        if (line.startsWith("`")) {
            sentences.add(heading + " / " + line.substring(line.indexOf("`: ") + 3));
        } else if (line.startsWith("Returns ")) {
            sentences.set(last, sentences.get(last) + " " + line);
        } else if (line.startsWith("Throws ")) {
            sentences.add(heading + " / " + line);
        }
    }

    private static List<Item> itemsOf(Path list) throws IOException {
        List<Item> items = new ArrayList<>();
        Item last = null;
        String heading = "";
        for (String line : Files.readAllLines(list)) {
            if (line.startsWith("### ")) {
                heading = line.substring(4);
            } else if (line.startsWith("- ")) {
                last = new Item(heading + " / " + line.substring(2));
                items.add(last);
            } else if (line.startsWith("  - tests: ")) {
                last.tests.addAll(piecesOf(line));
            } else if (line.startsWith("  - spoiled: ")) {
                List<String> pieces = piecesOf(line);
                Check.is("two pieces: " + line, pieces.size(), 2);
                last.spoilings.add(new Spoiling(last, pieces.get(0), pieces.get(1)));
            }
        }
        return items;
    }

    private static List<String> piecesOf(String line) {
        List<String> pieces = new ArrayList<>();
        Matcher piece = Pattern.compile("`([^`]*)`").matcher(line);
        while (piece.find()) {
            pieces.add(piece.group(1));
        }
        return pieces;
    }

    // --- the tests ---

    private static boolean isThere(String test) throws IOException {
        Path file = TESTS.resolve(test.substring(0, test.indexOf('.')) + ".java");
        String method = test.substring(test.indexOf('.') + 1);
        String text = Files.exists(file) ? Files.readString(file) : "";
        return text.contains("private static void " + method + "()")
                && text.contains("\n        " + method + "();\n");
    }

    // --- spoiled programs ---

    /** Tries them side by side; what failing tests print is of no use here. */
    private static void tryAll(List<Spoiling> spoilings) throws IOException {
        String program = Files.readString(PROGRAM);
        PrintStream out = System.out;
        System.setOut(new PrintStream(OutputStream.nullOutputStream()));
        spoilings.parallelStream().forEach(spoiling -> spoiling.outcome = outcomeOf(program, spoiling));
        System.setOut(out);
    }

    private static String outcomeOf(String program, Spoiling spoiling) {
        String spoiled = replace(program, spoiling.piece, spoiling.other);
        if (spoiled.isEmpty()) {
            return "the piece does not stand just once in the program";
        }
        Map<String, byte[]> classes = compile(spoiled);
        if (classes.isEmpty()) {
            return "it cannot be compiled";
        }
        try (SpoiledLoader loader = new SpoiledLoader(classes)) {
            for (String test : spoiling.item.tests) {
                if (fails(loader, test)) {
                    return SEEN;
                }
            }
            return "no test fails";
        } catch (ReflectiveOperationException | IOException e) {
            return e.toString();
        }
    }

    /** The program with another piece in the place of one that stands once in it; empty if it does not. */
    private static String replace(String program, String piece, String other) {
        StringBuilder pattern = new StringBuilder();
        for (String word : piece.split(" ")) {
            pattern.append(pattern.length() == 0 ? "" : "\\s+").append(Pattern.quote(word));
        }
        Matcher found = Pattern.compile(pattern.toString()).matcher(program);
        if (!found.find()) {
            return "";
        }
        String spoiled = program.substring(0, found.start()) + other + program.substring(found.end());
        return found.find() ? "" : spoiled;
    }

    private static boolean fails(ClassLoader loader, String test) throws ReflectiveOperationException {
        int dot = test.indexOf('.');
        Method method = loader.loadClass(test.substring(0, dot)).getDeclaredMethod(test.substring(dot + 1));
        method.setAccessible(true);
        try {
            method.invoke(null);
        } catch (InvocationTargetException e) {
            return true;
        }
        Method isAllAsDue = loader.loadClass("Check").getDeclaredMethod("isAllAsDue");
        isAllAsDue.setAccessible(true);
        return !(boolean) isAllAsDue.invoke(null);
    }

    /** The spoiled program's classes, and the tests' own ones loaded anew beside them. */
    private static final class SpoiledLoader extends URLClassLoader {
        private final Map<String, byte[]> classes;

        SpoiledLoader(Map<String, byte[]> classes) throws MalformedURLException {
            super(new URL[] {Path.of(System.getProperty("java.class.path")).toUri().toURL()},
                    ClassLoader.getPlatformClassLoader());
            this.classes = classes;
        }

        @Override
        protected Class<?> findClass(String name) throws ClassNotFoundException {
            byte[] code = classes.get(name);
            return code == null ? super.findClass(name) : defineClass(name, code, 0, code.length);
        }
    }

    // --- the compiler, in this machine and without files ---

    private static final JavaCompiler COMPILER = ToolProvider.getSystemJavaCompiler();
    // A compiler's files are not to be shared by what goes on side by side.
    private static final ThreadLocal<StandardJavaFileManager> FILES =
            ThreadLocal.withInitial(() -> COMPILER.getStandardFileManager(null, null, null));

    private static Map<String, byte[]> compile(String program) {
        Map<String, ByteArrayOutputStream> written = new HashMap<>();
        JavaFileObject source = new SimpleJavaFileObject(URI.create("string:///TightFive.java"),
                JavaFileObject.Kind.SOURCE) {
            @Override
            public CharSequence getCharContent(boolean ignoreEncodingErrors) {
                return program;
            }
        };
        JavaFileManager files = new ForwardingJavaFileManager<>(FILES.get()) {
            @Override
            public JavaFileObject getJavaFileForOutput(Location location, String name,
                    JavaFileObject.Kind kind, FileObject sibling) {
                return new SimpleJavaFileObject(URI.create("string:///" + name + ".class"), kind) {
                    @Override
                    public OutputStream openOutputStream() {
                        ByteArrayOutputStream code = new ByteArrayOutputStream();
                        written.put(name, code);
                        return code;
                    }
                };
            }
        };
        List<String> options = List.of("-proc:none", "-nowarn");
        boolean done = COMPILER.getTask(null, files, message -> { }, options, null, List.of(source)).call();
        Map<String, byte[]> classes = new HashMap<>();
        if (done) {
            written.forEach((name, code) -> classes.put(name, code.toByteArray()));
        }
        return classes;
    }
}
