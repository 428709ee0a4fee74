import java.io.IOException;
import java.lang.reflect.Constructor;
import java.lang.reflect.Field;
import java.lang.reflect.Method;
import java.lang.reflect.Modifier;
import java.nio.file.Files;
import java.nio.file.Path;
import java.util.Set;
import java.util.TreeSet;
import java.util.regex.Matcher;
import java.util.regex.Pattern;

/** The face of the class, and those rules of LANGUAGE.md that can be seen without reading the code. */
public final class RulesTest {
    private static final Set<String> FACE = new TreeSet<>(Set.of(
        "int feed(int,int,int,int,int)", "int line(int)", "int told(int)", "boolean point(int,int)", "int kind()",
        "int count(int)", "long item(int)", "int print()", "int octet(int)", "boolean keep(int)", "boolean back(int)",
        "int names(int)", "int letter(int,int,int)"));

    public static void main(String[] args) throws IOException {
        face();
        membersOf(ArrayCalculator.class);
        for (Class<?> inside : ArrayCalculator.class.getDeclaredClasses()) {
            Check.same(inside + " is static", Modifier.isStatic(inside.getModifiers()), true);
            membersOf(inside);
        }
        Check.same("at most 12 classes", ArrayCalculator.class.getDeclaredClasses().length + 1 <= 12, true);
        words(Files.readString(Path.of("src/main/java/ArrayCalculator.java")));
        Check.end();
    }

    private static void face() {
        Set<String> open = new TreeSet<>();
        for (Method method : ArrayCalculator.class.getDeclaredMethods()) {
            if (!Modifier.isPrivate(method.getModifiers())) {
                open.add(signature(method));
            }
        }
        Check.same("the face", open.toString(), FACE.toString());
        for (Field field : ArrayCalculator.class.getDeclaredFields()) {
            boolean isPrivate = Modifier.isPrivate(field.getModifiers());
            Check.same(field.getName() + " is private", isPrivate, !field.getName().equals("NONE"));
        }
        for (Constructor<?> constructor : ArrayCalculator.class.getDeclaredConstructors()) {
            Check.same("the constructor's parameters", constructor.getParameterCount(), 0);
        }
        Check.same("final", Modifier.isFinal(ArrayCalculator.class.getModifiers()), true);
    }

    private static String signature(Method method) {
        StringBuilder text = new StringBuilder(method.getReturnType() + " " + method.getName() + "(");
        for (Class<?> type : method.getParameterTypes()) {
            text.append(text.charAt(text.length() - 1) == '(' ? "" : ",").append(type);
        }
        return text.append(')').toString();
    }

    private static void membersOf(Class<?> type) {
        int fields = 0;
        for (Field field : type.getDeclaredFields()) {
            boolean isStatic = Modifier.isStatic(field.getModifiers());
            fields += isStatic ? 0 : 1;
            Check.same(field + ": static ones are final", !isStatic || Modifier.isFinal(field.getModifiers()), true);
        }
        Check.same(type + ": at most 20 fields", fields <= 20, true);
        for (Method method : type.getDeclaredMethods()) {
            Check.same(method + ": at most seven parameters", method.getParameterCount() <= 7, true);
            boolean named = FACE.stream().anyMatch(face -> face.contains(" " + method.getName() + "("));
            boolean isPublic = Modifier.isPublic(method.getModifiers());
            Check.same(method + ": no other one bears a public name", named && !isPublic, false);
        }
    }

    private static void words(String source) {
        String code = source.replaceAll("(?s)/\\*.*?\\*/", "").replaceAll("//[^\n]*", "")
            .replaceAll("'(\\\\.|[^'\\\\])'", "0").replaceAll("\"[^\"]*\"", "0");
        String banned = "\\b(throw|throws|try|catch|synchronized|assert|Object|Exact|random|System\\.(?!arraycopy)\\w+"
            + "|equals|hashCode|toString|double|float|List|ArrayList|protected|volatile|Thread)\\b|->|::";
        Matcher matcher = Pattern.compile(banned).matcher(code);
        if (matcher.find()) {
            Check.same("a word that the language leaves out", matcher.group(), "none");
        }
        Matcher imports = Pattern.compile("import ([^;]*);").matcher(code);
        while (imports.find()) {
            Check.same("imports", imports.group(1), "java.util.Arrays");
        }
        Check.same("static initialiser", code.contains("static {"), false);
        longestMethod(source);
    }

    private static void longestMethod(String source) {
        String[] lines = source.split("\n");
        int begun = -1;
        for (int i = 0; i < lines.length; i++) {
            boolean opens = lines[i].matches("( {4}| {8})[A-Za-z].*\\) \\{");
            if (opens) {
                begun = i;
            } else if (begun >= 0 && lines[i].matches("( {4}| {8})\\}")) {
                Check.same("lines of " + lines[begun].trim(), i - begun + 1 <= 60, true);
                begun = -1;
            }
        }
    }
}
