import java.io.IOException;
import java.nio.file.Files;
import java.nio.file.Path;
import java.util.HashSet;
import java.util.List;
import java.util.Set;
import java.util.TreeSet;
import java.util.regex.Matcher;
import java.util.regex.Pattern;

/** The rules of ../shared/LANGUAGE.md that can be read off the text of the program; run from the project's directory. */
final class LanguageTest {
    private static final Path PROGRAM = Path.of("src/main/java/QuorumAlmanac.java");
    private static final Pattern METHOD = Pattern.compile(
        "^( +)(public|private) (?!static final|final|class|record|enum|interface)(static )?([\\w\\[\\]]+ )?(\\w+)\\(([^)]*)\\).*");
    private static final Pattern FIELD = Pattern.compile("^( +)private (static )?(final )?[\\w\\[\\]]+ \\w+( = .*)?;$");
    private static final Pattern THROWN = Pattern.compile("throw new (\\w+)\\((\"[^\"]*\")?\\);");
    private static final Pattern CALLED = Pattern.compile("\\b([A-Z]\\w*)\\.(\\w+)\\(");

    public static void main(String[] args) throws IOException {
        String text = Files.readString(PROGRAM);
        List<String> lines = text.lines().toList();
        Check.due("rule 4: signs beyond 126", 0L, () -> text.chars().filter(c -> c > 126).count());
        Check.due("rule 4: imports", Set.of("import java.util.NoSuchElementException;"),
            () -> new HashSet<>(lines.stream().filter(line -> line.startsWith("import")).toList()));
        String code = text.replaceAll("(?s)/\\*.*?\\*/", "").replaceAll("//[^\n]*", "").replaceAll("\"[^\"]*\"", "\"\"");
        for (String word : new String[] {"->", "::", "try", "catch", "finally", "synchronized", "assert", "package", "System",
            "Thread", "Object", "toString", "hashCode", "double[]", "goto", "native", "volatile", "transient", "yield", "var"}) {
            String found = word.matches("\\w+") ? "\\b" + word + "\\b" : Pattern.quote(word);
            Check.due("no " + word, false, () -> Pattern.compile(found).matcher(code).find());
        }
        thrown(text);
        called(code);
        methods(lines);
        fields(lines);
        Check.end();
    }

    private static void thrown(String text) {
        Set<String> known = Set.of("IllegalStateException", "IllegalArgumentException", "IndexOutOfBoundsException",
            "ArithmeticException", "UnsupportedOperationException", "NoSuchElementException", "RuntimeException");
        Matcher matcher = THROWN.matcher(text);
        int count = 0;
        while (matcher.find()) {
            String name = matcher.group(1);
            count++;
            Check.due("rule 6: " + name, true, () -> known.contains(name));
        }
        int written = count;
        Check.due("rule 6: each throw is so written", written, () -> text.split("\\bthrow\\b", -1).length - 1);
    }

    private static void called(String code) {
        Set<String> known = Set.of("Math.min", "Math.max", "Integer.bitCount");
        Set<String> used = new TreeSet<>();
        Matcher matcher = CALLED.matcher(code);
        while (matcher.find()) {
            used.add(matcher.group(1) + "." + matcher.group(2));
        }
        used.removeAll(known);
        Check.due("rule 4: other calls of the library", new TreeSet<String>(), () -> used);
    }

    private static void methods(List<String> lines) {
        Set<String> open = new HashSet<>();
        Set<String> hidden = new HashSet<>();
        for (int i = 0; i < lines.size(); i++) {
            Matcher matcher = METHOD.matcher(joined(lines, i));
            if (!matcher.matches()) {
                continue;
            }
            String name = matcher.group(5);
            (matcher.group(2).equals("public") ? open : hidden).add(name);
            int length = lines.subList(i, lines.size()).indexOf(matcher.group(1) + "}") + 1;
            Check.due("rule 11: " + name + " has at most 60 lines", true, () -> length > 1 && length <= 60);
            int parameters = matcher.group(6).isEmpty() ? 0 : matcher.group(6).split(",").length;
            Check.due("rule 11: " + name + " takes at most seven parameters", true, () -> parameters <= 7);
        }
        Check.due("the methods of the face and the constructor", 41, () -> open.size());
        hidden.retainAll(open);
        Check.due("rule 1: private methods that bear the name of a public one", new HashSet<String>(), () -> hidden);
    }

    /** The head of a method may go on in the lines that follow. */
    private static String joined(List<String> lines, int from) {
        String line = lines.get(from);
        for (int i = from + 1; i < from + 3 && i < lines.size() && line.contains("(") && !line.endsWith("{")
            && !line.endsWith(";"); i++) {
            line += " " + lines.get(i).strip();
        }
        return line;
    }

    private static void fields(List<String> lines) {
        int classes = 0;
        int outer = 0;
        int inner = 0;
        for (String line : lines) {
            if (line.startsWith("    private static final class ")) {
                classes++;
                inner = 0;
            }
            Matcher matcher = FIELD.matcher(line);
            if (!matcher.matches()) {
                continue;
            }
            boolean isConstant = matcher.group(2) != null;
            boolean isFinal = matcher.group(3) != null;
            Check.due("rule 5: " + line.strip(), true, () -> isFinal || !isConstant);
            inner += isConstant || matcher.group(1).length() == 4 ? 0 : 1;
            outer += isConstant || matcher.group(1).length() > 4 ? 0 : 1;
            int most = Math.max(inner, outer);
            Check.due("rule 11: some twenty fields", true, () -> most <= 20);
        }
        int all = classes;
        Check.due("rule 11: some twelve classes", true, () -> all >= 1 && all <= 12);
    }
}
