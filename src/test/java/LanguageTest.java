import java.io.IOException;
import java.nio.file.Files;
import java.nio.file.Path;
import java.util.List;
import java.util.regex.Pattern;

/** Rules of LANGUAGE.md that can be seen in the text of the program; .ci/run starts it in the project's folder. */
public final class LanguageTest {
    private static final Path SOURCE = Path.of("src/main/java/FreshAllotter.java");
    private static final int METHOD_LINES = 60;

    public static void main(String[] args) throws IOException {
        String code = Files.readString(SOURCE).replaceAll("(?s)/\\*.*?\\*/", "").replaceAll("//[^\n]*", "");
        String[] ruledOut = {"->", "::", "Exact", "\\bfinally\\b", "\\bassert\\b", "\\bsynchronized\\b", "\\bpackage\\b",
            "\\btry\\b", "\\bcatch\\b", "\\bprotected\\b", "\\bSystem\\.(?!arraycopy)", "\\bMath\\.(?!min|max)", "\\bstatic \\{",
            "\\bgetMessage\\b", "\\bhashCode\\b", "\\btoString\\b", "\\bnull\\b", "while \\(true\\)", "for \\(;;\\)", "\" \\+|\\+ \""};
        for (String pattern : ruledOut) {
            Checks.due("'" + pattern + "' stands in the program", Pattern.compile(pattern).matcher(code).find(), false);
        }
        List<String> imports = code.lines().filter(line -> line.startsWith("import ")).toList();
        Checks.due("imports", imports.equals(List.of("import java.util.NoSuchElementException;")), true);
        Checks.due("classes beside the first", Pattern.compile("\\bclass \\w+ \\{").matcher(code).results().count() <= 12, true);
        code.lines().filter(line -> line.contains(" class ") && line.startsWith("    "))
                .forEach(line -> Checks.due(line.trim(), line.startsWith("    private static final class "), true));
        dueShortMethods(code);
        Checks.finish();
    }

    /** A method's last line stands as deep as its first one. */
    private static void dueShortMethods(String code) {
        List<String> lines = code.lines().toList();
        Pattern head = Pattern.compile("( {4}| {8})\\w[^=;]*\\) (throws \\w+ )?\\{");
        for (int first = 0; first < lines.size(); first++) {
            var match = head.matcher(lines.get(first));
            if (match.matches() && !lines.get(first).matches(" *(if|for|while|switch|else|do)\\b.*")) {
                int last = first;
                while (!lines.get(last).equals(match.group(1) + "}")) {
                    last++;
                }
                Checks.due("short: " + lines.get(first).trim(), last - first < METHOD_LINES, true);
                int parameters = lines.get(first).split(",").length;
                Checks.due("few parameters: " + lines.get(first).trim(), parameters <= 7, true);
            }
        }
    }
}
