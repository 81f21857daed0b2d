import java.io.IOException;
import java.io.PrintWriter;
import java.io.StringWriter;
import java.lang.reflect.Constructor;
import java.lang.reflect.Method;
import java.lang.reflect.Modifier;
import java.nio.file.Files;
import java.nio.file.Path;
import java.util.ArrayList;
import java.util.List;
import java.util.Map;
import java.util.Set;
import java.util.TreeMap;
import java.util.TreeSet;
import java.util.regex.Matcher;
import java.util.regex.Pattern;
import java.util.spi.ToolProvider;

/** The rules of LANGUAGE.md that can be seen by looking at the text of the class, or at the class itself. */
public final class LanguageTest {
    private static final String FILE = "src/main/java/DrystoneSimnet.java";
    private static final String[] RULED_OUT = {"->", "::", "\\btry\\b", "\\bcatch\\b", "\\bfinally\\b", "\\bsynchronized\\b", "\\bassert\\b",
        "\\bvar\\b", "\\bthrow\\b(?! new (IllegalStateException|IllegalArgumentException|IndexOutOfBoundsException)\\()",
        "\\bSystem\\b", "\\bObject\\b", "\\bThread\\b", "\\bRandom\\b", "Exact\\(", "\\bstatic\\s*\\{", "@", "\\bprotected\\b",
        "\\bMath\\.(?!max|min|abs)", "\\bLong\\.(?!bitCount)", "\\bInteger\\b", "\\bArrays\\.(?!fill|copyOf)", "\\bString\\b",
        "while \\(true\\)", "for \\(;;\\)", "\\bclass\\b(?= \\w+ extends)"};

    private static List<String> code() throws IOException {
        List<String> lines = new ArrayList<>();
        boolean inComment = false;
        for (String line : Files.readAllLines(Path.of(FILE))) {
            Checks.due("a line of signs 1 to 127: " + line, line.chars().allMatch(c -> c > 0 && c < 128), true);
            String text = line.replaceAll("\"[^\"]*\"", "\"\"").replaceAll("//.*", "").replaceAll("/\\*.*\\*/", "");
            if (text.contains("/*")) inComment = true;
            boolean skip = inComment;
            if (text.contains("*/")) inComment = false;
            lines.add(skip ? "" : text);
        }
        return lines;
    }

    private static void nothingRuledOut(List<String> code) {
        for (String ruledOut : RULED_OUT) {
            Pattern pattern = Pattern.compile(ruledOut);
            for (int i = 0; i < code.size(); i++) {
                Checks.due("line " + (i + 1) + " has " + ruledOut, pattern.matcher(code.get(i)).find(), false);
            }
        }
        for (String line : code) {
            if (line.startsWith("import")) Checks.due(line, line.equals("import java.util.Arrays;"), true);
        }
    }

    private static void smallMethods(List<String> code) {
        Pattern head = Pattern.compile("^( {8}| {4})(?! )[\\w\\[\\]. ]*\\w+\\((.*)\\)[\\w, ]* \\{$");
        for (int i = 0; i < code.size(); i++) {
            Matcher m = head.matcher(code.get(i));
            if (!m.matches()) continue;
            int end = i;
            while (!code.get(end).equals(m.group(1) + "}")) end++;
            Checks.due("a method of at most 60 lines: " + code.get(i), end - i <= 60, true);
            int parameters = m.group(2).isBlank() ? 0 : m.group(2).split(",").length;
            Checks.due("a method of at most 7 parameters: " + code.get(i), parameters <= 7, true);
        }
    }

    private static void smallClasses() {
        Class<?>[] inside = DrystoneSimnet.class.getDeclaredClasses();
        Checks.due("at most 12 classes", inside.length + 1 <= 12, true);
        Set<String> face = new TreeSet<>();
        for (Method m : DrystoneSimnet.class.getDeclaredMethods()) {
            if (Modifier.isPublic(m.getModifiers())) face.add(m.getName());
            else Checks.due("private: " + m.getName(), Modifier.isPrivate(m.getModifiers()), true);
        }
        Checks.due("methods of the face", face.size(), 24);
        Checks.due("constructors", DrystoneSimnet.class.getDeclaredConstructors().length, 1);
        for (Constructor<?> c : DrystoneSimnet.class.getDeclaredConstructors()) Checks.due("it is public", Modifier.isPublic(c.getModifiers()), true);
        for (Method m : DrystoneSimnet.class.getDeclaredMethods()) {
            if (!Modifier.isPublic(m.getModifiers())) Checks.due("a name of its own: " + m.getName(), face.contains(m.getName()), false);
        }
        for (Class<?> c : inside) {
            Checks.due("private and static: " + c.getName(), Modifier.isStatic(c.getModifiers()) && Modifier.isPrivate(c.getModifiers()), true);
            int fields = 0;
            for (java.lang.reflect.Field f : c.getDeclaredFields()) {
                if (!Modifier.isStatic(f.getModifiers())) fields++;
                else Checks.due("a static one is final: " + f, Modifier.isFinal(f.getModifiers()), true);
            }
            Checks.due("at most 20 fields: " + c.getName(), fields <= 20, true);
            for (Method m : c.getDeclaredMethods()) Checks.due("a name of its own: " + m.getName(), face.contains(m.getName()), false);
        }
    }

    /** What each method calls, by the machine's own listing of the class. */
    private static Map<String, Set<String>> callsOfMethods(ToolProvider lister) {
        Map<String, Set<String>> calls = new TreeMap<>();
        List<String> names = new ArrayList<>(List.of("DrystoneSimnet"));
        for (Class<?> c : DrystoneSimnet.class.getDeclaredClasses()) names.add(c.getName());
        Pattern head = Pattern.compile("^  \\S(?:.*[ .$])?(\\w+)\\(.*;$");
        Pattern call = Pattern.compile("// Method (?:([\\w$/]+)\\.)?\"?([\\w<>]+)\"?:");
        for (String name : names) {
            StringWriter text = new StringWriter();
            PrintWriter out = new PrintWriter(text);
            lister.run(out, out, "-c", "-p", "-cp", System.getProperty("java.class.path"), name);
            Set<String> made = new TreeSet<>();
            for (String line : text.toString().split("\\R")) {
                Matcher m = head.matcher(line), n = call.matcher(line);
                if (m.find()) {
                    String own = name.endsWith(m.group(1)) ? "<init>" : m.group(1);
                    made = calls.computeIfAbsent(name + "." + own, k -> new TreeSet<>());
                } else if (n.find()) {
                    made.add((n.group(1) == null ? name : n.group(1)) + "." + n.group(2));
                }
            }
        }
        return calls;
    }

    private static int depth(String method, Map<String, Set<String>> calls, int above) {
        int deepest = 0;
        for (String called : above < 20 ? calls.get(method) : Set.<String>of()) {
            if (calls.containsKey(called)) deepest = Math.max(deepest, depth(called, calls, above + 1));
        }
        return deepest + 1;
    }

    private static void shallowCalls() {
        ToolProvider lister = ToolProvider.findFirst("javap").orElse(null);
        if (lister == null) {
            System.out.println("there is no javap here: how deep calls go is not looked at");
            return;
        }
        Map<String, Set<String>> calls = callsOfMethods(lister);
        Checks.due("the listing has the face and more", calls.size() > 100 && calls.containsKey("DrystoneSimnet.tick"), true);
        int deepest = 0;
        for (String method : calls.keySet()) {
            int depth = depth(method, calls, 0);
            deepest = Math.max(deepest, depth);
            Checks.due("calls at most 8 deep from " + method + ", which has " + depth, depth <= 8, true);
        }
        Checks.due("the listing tells who calls whom", deepest > 3, true);
    }

    public static void main(String[] args) throws IOException {
        shallowCalls();
        List<String> code = code();
        nothingRuledOut(code);
        smallMethods(code);
        smallClasses();
        Checks.end("LanguageTest");
    }
}
