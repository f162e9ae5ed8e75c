import java.io.IOException;
import java.lang.reflect.Modifier;
import java.nio.file.Files;
import java.nio.file.Path;
import java.util.ArrayList;
import java.util.Arrays;
import java.util.List;
import java.util.Map;
import java.util.TreeMap;
import java.util.regex.Pattern;

/** Rules of LANGUAGE.md that can be seen in the text of the program; .ci/run starts it in the project's folder. */
public final class LanguageTest {
    private static final Path SOURCE = Path.of("src/main/java/FreshAllotter.java");
    private static final int METHOD_LINES = 60;
    private static final int PARAMETERS = 7;
    private static final int CALLS_DEEP = 8;
    private static final int FIELDS = 20;

    public static void main(String[] args) throws IOException {
        String code = Files.readString(SOURCE).replaceAll("(?s)/\\*.*?\\*/", "").replaceAll("//[^\n]*", "");
        String[] ruledOut = {"->", "::", "Exact", "\\bfinally\\b", "\\bassert\\b", "\\bsynchronized\\b", "\\bpackage\\b",
            "\\btry\\b", "\\bcatch\\b", "\\bprotected\\b", "\\bSystem\\.(?!arraycopy)", "\\bMath\\.(?!min|max)", "\\bstatic \\{",
            "\\bgetMessage\\b", "\\bhashCode\\b", "\\btoString\\b", "\\bnull\\b", "while \\(true\\)", "for \\(;;\\)", "\" \\+|\\+ \""};
        for (String pattern : ruledOut) {
            Checks.due("'" + pattern + "' stands in the program", Pattern.compile(pattern).matcher(code).find(), false);
        }
        List<String> imports = code.lines().filter(line -> line.startsWith("import ")).toList();
        Checks.due("imports", imports.equals(List.of("import java.util.NoSuchElementException;")), true);
        Checks.due("classes beside the first", Pattern.compile("\\bclass \\w+ \\{").matcher(code).results().count() <= 12, true);
        code.lines().filter(line -> line.contains(" class ") && line.startsWith("    "))
                .forEach(line -> Checks.due(line.trim(), line.startsWith("    private static final class "), true));
        Map<String, List<String>> methods = methods(code);
        Checks.due("methods are found", methods.containsKey("text") && methods.containsKey("spells"), true);
        for (String name : methods.keySet()) {
            Checks.due("calls of " + name + " go at most eight deep", depth(name, methods, new ArrayList<>()) <= CALLS_DEEP, true);
        }
        for (Class<?> type : FreshAllotter.class.getDeclaredClasses()) {
            long fields = Arrays.stream(type.getDeclaredFields()).filter(field -> !Modifier.isStatic(field.getModifiers())).count();
            Checks.due("few fields of " + type.getSimpleName(), fields <= FIELDS, true);
        }
        Checks.finish();
    }

    /** The lines of each method by its name; a method's last line stands as deep as its first one. */
    private static Map<String, List<String>> methods(String code) {
        List<String> lines = code.lines().toList();
        Pattern head = Pattern.compile("( {4}| {8})\\w[^=;]*?(\\w+)\\([^=;]*\\) (throws \\w+ )?\\{");
        Map<String, List<String>> found = new TreeMap<>();
        for (int first = 0; first < lines.size(); first++) {
            var match = head.matcher(lines.get(first));
            if (match.matches() && !lines.get(first).matches(" *(if|for|while|switch|else|do)\\b.*")) {
                int last = first;
                while (!lines.get(last).equals(match.group(1) + "}")) {
                    last++;
                }
                List<String> body = lines.subList(first, last + 1);
                Checks.due("short: " + body.get(0).trim(), body.size() <= METHOD_LINES, true);
                Checks.due("few parameters: " + body.get(0).trim(), body.get(0).split(",").length <= PARAMETERS, true);
                found.computeIfAbsent(match.group(2), name -> new ArrayList<>()).addAll(body.subList(1, body.size()));
            }
        }
        return found;
    }

    /** How deep calls go from a method, itself the first; those of one name count as one, and none may call itself. */
    private static int depth(String name, Map<String, List<String>> methods, List<String> open) {
        Checks.due(name + " calls itself by " + open, open.contains(name), false);
        if (open.contains(name)) {
            return 0;
        }
        open.add(name);
        int deepest = 0;
        for (String line : methods.get(name)) {
            var call = Pattern.compile("\\b(\\w+)\\(").matcher(line);
            while (call.find()) {
                if (methods.containsKey(call.group(1))) {
                    deepest = Math.max(deepest, depth(call.group(1), methods, open));
                }
            }
        }
        open.remove(name);
        return deepest + 1;
    }
}
