import java.io.IOException;
import java.lang.reflect.Method;
import java.lang.reflect.Modifier;
import java.net.URL;
import java.net.URLClassLoader;
import java.nio.file.Files;
import java.nio.file.Path;
import java.util.ArrayList;
import java.util.List;
import java.util.function.Supplier;
import java.util.regex.Matcher;
import java.util.regex.Pattern;
import java.util.stream.Stream;
import javax.tools.ToolProvider;

/** What README.md says is so: its examples are compiled and run, and it names what there is; run from the project's directory. */
final class ReadmeTest {
    private static final Path README = Path.of("README.md");
    private static final Path TESTS = Path.of("src/test/java");
    private static final Pattern BLOCK = Pattern.compile("(?s)```java\n(.*?)```");
    /** A call with the answer, or the exception, that is written behind it. */
    private static final Pattern ANSWERED = Pattern.compile("^ *(x\\..*);\\s+// (= |throws )('.'|[\\w-]+).*$");

    public static void main(String[] args) throws Exception {
        String text = Files.readString(README);
        names(text);
        List<String> blocks = new ArrayList<>();
        Matcher matcher = BLOCK.matcher(text);
        while (matcher.find()) {
            blocks.add(matcher.group(1));
        }
        Check.due("examples", 2, () -> blocks.size());
        examples(blocks);
        Check.end();
    }

    private static void names(String text) throws IOException {
        for (Method method : QuorumAlmanac.class.getDeclaredMethods()) {
            if (Modifier.isPublic(method.getModifiers())) {
                Check.due("README.md names " + method.getName(), true, () -> text.contains("`" + method.getName() + "`"));
            }
        }
        try (Stream<Path> files = Files.list(TESTS)) {
            for (Path file : files.toList()) {
                String name = file.getFileName().toString().replace(".java", "");
                Check.due("README.md names " + name, true, () -> text.contains("`" + name + "`"));
            }
        }
        Matcher named = Pattern.compile("`(\\w+Test)`").matcher(text);
        while (named.find()) {
            String name = named.group(1);
            Check.due("the test " + name + " is there", true, () -> Files.exists(TESTS.resolve(name + ".java")));
        }
    }

    /** The examples become a class of their own, which tells each answer as a text, one behind the other. */
    private static void examples(List<String> blocks) throws Exception {
        List<String> calls = new ArrayList<>();
        List<String> due = new ArrayList<>();
        StringBuilder source = new StringBuilder("public final class ReadmeExamples implements "
            + "java.util.function.Supplier<java.util.List<String>> {\n"
            + "    private final java.util.List<String> told = new java.util.ArrayList<>();\n"
            + "    private void tell(java.util.function.Supplier<Object> call) {\n"
            + "        try {\n            told.add(String.valueOf(call.get()));\n"
            + "        } catch (RuntimeException e) {\n"
            + "            told.add(\"throws \" + e.getClass().getSimpleName());\n        }\n    }\n"
            + "    public java.util.List<String> get() {\n");
        for (String block : blocks) {
            source.append("{\n");
            for (String line : block.lines().toList()) {
                source.append(toldLine(line, calls, due)).append('\n');
            }
            source.append("}\n");
        }
        List<String> told = answersOf(source.append("return told;\n    }\n}\n").toString());
        Check.due("answers", due.size(), () -> told.size());
        for (int i = 0; i < due.size() && i < told.size(); i++) {
            String answer = told.get(i);
            Check.due("in README.md, " + calls.get(i), due.get(i), () -> answer);
        }
    }

    private static String toldLine(String line, List<String> calls, List<String> due) {
        Matcher matcher = ANSWERED.matcher(line);
        boolean isAnswered = matcher.matches();
        Check.due("'" + line + "' is read", line.contains("// = ") || line.contains("// throws "), () -> isAnswered);
        if (!isAnswered) {
            return line;
        }
        calls.add(matcher.group(1));
        due.add(matcher.group(2).equals("= ") ? matcher.group(3).replace("'", "") : "throws " + matcher.group(3));
        return "tell(() -> " + matcher.group(1) + ");";
    }

    private static List<String> answersOf(String source) throws Exception {
        Path place = Files.createTempDirectory("readme");
        Path file = place.resolve("ReadmeExamples.java");
        Files.writeString(file, source);
        int failed = ToolProvider.getSystemJavaCompiler().run(null, null, null, "-cp",
            System.getProperty("java.class.path"), "-d", place.toString(), file.toString());
        Check.due("the examples compile", 0, () -> failed);
        List<String> answers = new ArrayList<>();
        if (failed == 0) {
            try (URLClassLoader loader = new URLClassLoader(new URL[] {place.toUri().toURL()})) {
                Object made = loader.loadClass("ReadmeExamples").getConstructor().newInstance();
                for (Object answer : (List<?>) ((Supplier<?>) made).get()) {
                    answers.add(String.valueOf(answer));
                }
            }
        }
        Files.deleteIfExists(place.resolve("ReadmeExamples.class"));
        Files.delete(file);
        Files.delete(place);
        return answers;
    }
}
