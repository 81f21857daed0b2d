import java.io.IOException;
import java.lang.reflect.Constructor;
import java.lang.reflect.Method;
import java.lang.reflect.Modifier;
import java.nio.file.Files;
import java.nio.file.Path;
import java.util.ArrayList;
import java.util.List;
import java.util.Set;
import java.util.TreeSet;
import java.util.regex.Matcher;
import java.util.regex.Pattern;

/** The rules of LANGUAGE.md that can be seen by looking at the text of the class, or at the class itself. */
public final class LanguageTest {
    private static final String FILE = "src/main/java/DrystoneSimnet.java";
    private static final String[] RULED_OUT = {"->", "::", "\\btry\\b", "\\bcatch\\b", "\\bfinally\\b", "\\bsynchronized\\b", "\\bassert\\b",
        "\\bvar\\b", "\\bthrow\\b(?! new (IllegalStateException|IllegalArgumentException|IndexOutOfBoundsException)\\()",
        "\\bSystem\\b", "\\bObject\\b", "\\bThread\\b", "\\bRandom\\b", "Exact\\(", "\\bstatic\\s*\\{", "@", "\\bprotected\\b",
        "\\bMath\\.(?!max|min|abs)", "\\bLong\\.(?!bitCount)", "\\bInteger\\b", "\\bArrays\\.(?!fill|copyOf)", "\\bString\\b",
        "while \\(true\\)", "for \\(;;\\)", "\\bclass\\b(?= \\w+ extends)"};

    private static List<String> code() throws IOException {
        List<String> lines = new ArrayList<>();
        boolean inComment = false;
        for (String line : Files.readAllLines(Path.of(FILE))) {
            Checks.due("a line of signs 1 to 127: " + line, line.chars().allMatch(c -> c > 0 && c < 128), true);
            String text = line.replaceAll("\"[^\"]*\"", "\"\"").replaceAll("//.*", "").replaceAll("/\\*.*\\*/", "");
            if (text.contains("/*")) inComment = true;
            boolean skip = inComment;
            if (text.contains("*/")) inComment = false;
            lines.add(skip ? "" : text);
        }
        return lines;
    }

    private static void nothingRuledOut(List<String> code) {
        for (String ruledOut : RULED_OUT) {
            Pattern pattern = Pattern.compile(ruledOut);
            for (int i = 0; i < code.size(); i++) {
                Checks.due("line " + (i + 1) + " has " + ruledOut, pattern.matcher(code.get(i)).find(), false);
            }
        }
        for (String line : code) {
            if (line.startsWith("import")) Checks.due(line, line.equals("import java.util.Arrays;"), true);
        }
    }

    private static void smallMethods(List<String> code) {
        Pattern head = Pattern.compile("^( {8}| {4})(?! )[\\w\\[\\]. ]*\\w+\\((.*)\\)[\\w, ]* \\{$");
        for (int i = 0; i < code.size(); i++) {
            Matcher m = head.matcher(code.get(i));
            if (!m.matches()) continue;
            int end = i;
            while (!code.get(end).equals(m.group(1) + "}")) end++;
            Checks.due("a method of at most 60 lines: " + code.get(i), end - i <= 60, true);
            int parameters = m.group(2).isBlank() ? 0 : m.group(2).split(",").length;
            Checks.due("a method of at most 7 parameters: " + code.get(i), parameters <= 7, true);
        }
    }

    private static void smallClasses() {
        Class<?>[] inside = DrystoneSimnet.class.getDeclaredClasses();
        Checks.due("at most 12 classes", inside.length + 1 <= 12, true);
        Set<String> face = new TreeSet<>();
        for (Method m : DrystoneSimnet.class.getDeclaredMethods()) {
            if (Modifier.isPublic(m.getModifiers())) face.add(m.getName());
            else Checks.due("private: " + m.getName(), Modifier.isPrivate(m.getModifiers()), true);
        }
        Checks.due("methods of the face", face.size(), 24);
        Checks.due("constructors", DrystoneSimnet.class.getDeclaredConstructors().length, 1);
        for (Constructor<?> c : DrystoneSimnet.class.getDeclaredConstructors()) Checks.due("it is public", Modifier.isPublic(c.getModifiers()), true);
        for (Method m : DrystoneSimnet.class.getDeclaredMethods()) {
            if (!Modifier.isPublic(m.getModifiers())) Checks.due("a name of its own: " + m.getName(), face.contains(m.getName()), false);
        }
        for (Class<?> c : inside) {
            Checks.due("private and static: " + c.getName(), Modifier.isStatic(c.getModifiers()) && Modifier.isPrivate(c.getModifiers()), true);
            int fields = 0;
            for (java.lang.reflect.Field f : c.getDeclaredFields()) {
                if (!Modifier.isStatic(f.getModifiers())) fields++;
                else Checks.due("a static one is final: " + f, Modifier.isFinal(f.getModifiers()), true);
            }
            Checks.due("at most 20 fields: " + c.getName(), fields <= 20, true);
            for (Method m : c.getDeclaredMethods()) Checks.due("a name of its own: " + m.getName(), face.contains(m.getName()), false);
        }
    }

    public static void main(String[] args) throws IOException {
        List<String> code = code();
        nothingRuledOut(code);
        smallMethods(code);
        smallClasses();
        Checks.end("LanguageTest");
    }
}
