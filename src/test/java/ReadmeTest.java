import java.io.ByteArrayOutputStream;
import java.io.IOException;
import java.io.PrintStream;
import java.lang.reflect.Method;
import java.lang.reflect.Modifier;
import java.net.URL;
import java.net.URLClassLoader;
import java.nio.file.Files;
import java.nio.file.Path;
import java.util.ArrayList;
import java.util.List;
import java.util.regex.Matcher;
import java.util.regex.Pattern;
import java.util.stream.Stream;
import javax.tools.ToolProvider;

/** README.md: its Java compiles, and what it shows of lines and calls is what the class answers. */
public final class ReadmeTest {
    private static final Path README = Path.of("README.md");
    /** Lines stand behind four blanks, their answers behind none. */
    private static final String INDENT = "    ";
    private static final String PROGRAM = "public class Try ";
    private static final Pattern SHOWN = Pattern.compile("(?:int|long) (\\w+) = .*; +// (-?\\d+)\\b");

    public static void main(String[] args) throws IOException, ReflectiveOperationException {
        Check.of("README.md");
        Check.same("it is there", Files.isRegularFile(README), true);
        String text = Files.isRegularFile(README) ? Files.readString(README) : "";
        Check.same("it is empty", text.isBlank(), false);
        Check.same("it tells how the tests are run", blocks(text, "sh").contains(".ci/run\n"), true);
        allCallsToldOf(text);
        Path dir = Files.createTempDirectory("readme");
        try (URLClassLoader loader = new URLClassLoader(new URL[] {dir.toUri().toURL()})) {
            javaBlocks(text, dir, loader);
        } finally {
            deleteAll(dir);
        }
        Check.end();
    }

    private static void allCallsToldOf(String text) {
        for (Method method : ArrayCalculator.class.getDeclaredMethods()) {
            if (Modifier.isPublic(method.getModifiers())) {
                Check.same(method.getName() + " is told of", text.contains("`" + method.getName() + "("), true);
            }
        }
    }

    private static void javaBlocks(String text, Path dir, ClassLoader loader)
            throws IOException, ReflectiveOperationException {
        int snippets = 0;
        for (String code : blocks(text, "java")) {
            if (code.contains(PROGRAM)) {
                compile(dir, "Try", code);
            } else {
                snippets++;
                compile(dir, "Snippet" + snippets, snippet("Snippet" + snippets, code));
                output(loader, "Snippet" + snippets);
            }
        }
        Check.same("pieces of Java that call the class", snippets, 1);
        List<String> sessions = blocks(text, "text");
        Check.same("lines to try are shown", sessions.isEmpty(), false);
        for (String session : sessions) {
            session(loader, session);
        }
    }

    /** The insides of all blocks of this language. */
    private static List<String> blocks(String text, String language) {
        List<String> found = new ArrayList<>();
        Matcher matcher = Pattern.compile("(?ms)^```" + language + "\n(.*?)^```$").matcher(text);
        while (matcher.find()) {
            found.add(matcher.group(1));
        }
        return found;
    }

    /** A class that runs the code; a number that its comment begins with is due there. */
    private static String snippet(String name, String code) {
        StringBuilder made = new StringBuilder("public class " + name + " { public static void main(String[] args) {\n" + code);
        Matcher matcher = SHOWN.matcher(code);
        int shown = 0;
        while (matcher.find()) {
            shown++;
            made.append("if (").append(matcher.group(1)).append(" != ").append(matcher.group(2))
                .append("L) { throw new IllegalStateException(\"README.md: ").append(matcher.group(1))
                .append(" is \" + ").append(matcher.group(1)).append("); }\n");
        }
        Check.same("a piece of Java shows answers", shown > 0, true);
        return made.append("} }\n").toString();
    }

    private static void compile(Path dir, String name, String code) throws IOException {
        Path file = dir.resolve(name + ".java");
        Files.writeString(file, code);
        int answer = ToolProvider.getSystemJavaCompiler().run(null, null, null, "-Xlint:all", "-Werror",
            "-cp", System.getProperty("java.class.path"), "-d", dir.toString(), file.toString());
        Check.same(name + " compiles", answer, 0);
    }

    /** What a program prints, line by line. */
    private static String[] output(ClassLoader loader, String name, String... args) throws ReflectiveOperationException {
        PrintStream out = System.out;
        ByteArrayOutputStream printed = new ByteArrayOutputStream();
        System.setOut(new PrintStream(printed, true));
        try {
            loader.loadClass(name).getMethod("main", String[].class).invoke(null, (Object) args);
        } finally {
            System.setOut(out);
        }
        return printed.toString().split("\n");
    }

    /** The lines of one piece on one object; those that tell a function have no answer there. */
    private static void session(ClassLoader loader, String session) throws ReflectiveOperationException {
        List<String> lines = new ArrayList<>();
        List<String> answers = new ArrayList<>();
        for (String shown : session.split("\n")) {
            if (shown.startsWith(INDENT)) {
                lines.add(shown.substring(INDENT.length()));
                answers.add(null);
            } else {
                Check.same("an answer stands behind a line: " + shown, !answers.isEmpty(), true);
                answers.set(answers.size() - 1, shown);
            }
        }
        String[] printed = output(loader, "Try", lines.toArray(new String[0]));
        Check.same("lines printed by Try", printed.length, lines.size());
        Check check = new Check();
        for (int i = 0; i < lines.size(); i++) {
            if (answers.get(i) == null) {
                Check.same(lines.get(i) + " tells a function", lines.get(i).matches("[a-z]+: *\\{.*\\}"), true);
                check.does(lines.get(i));
            } else {
                check.shows(lines.get(i), answers.get(i));
                Check.same("Try '" + lines.get(i) + "'", printed[i], answers.get(i));
            }
        }
    }

    private static void deleteAll(Path dir) throws IOException {
        try (Stream<Path> files = Files.list(dir)) {
            for (Path file : files.toList()) {
                Files.delete(file);
            }
        }
        Files.delete(dir);
    }
}
