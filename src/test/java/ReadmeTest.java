import java.io.File;
import java.net.URL;
import java.net.URLClassLoader;
import java.nio.file.Files;
import java.nio.file.Path;
import java.util.ArrayList;
import java.util.Comparator;
import java.util.LinkedHashMap;
import java.util.List;
import java.util.Map;
import java.util.TreeMap;
import java.util.TreeSet;
import java.util.regex.Matcher;
import java.util.regex.Pattern;
import java.util.stream.Stream;
import javax.tools.ToolProvider;

/** README.md tells each call and its exceptions as the document does, and its example answers what it says. */
public final class ReadmeTest {
    private static final Due due = new Due();

    public static void main(String[] args) throws Exception {
        String page = Files.readString(Path.of("README.md"));
        String document = Files.readString(Path.of("../shared/DOC.md"));
        callsAreThoseOfTheDocument(page, document);
        callsThatNeedATimetable(page, document);
        kindsOfRules(page);
        example(page);
        due.end();
    }

    /** One row for each call, with its parameters and its exceptions in their order. */
    private static void callsAreThoseOfTheDocument(String page, String document) {
        due.promise("README, the calls");
        Map<String, String> told = new TreeMap<>();
        Matcher row = Pattern.compile("(?m)^\\| `(\\w+\\(.*?\\))` \\|(.*)\\|(.*)\\|(.*)\\|$").matcher(page);
        while (row.find()) {
            due.is("" + told.put(row.group(1), exceptions(row.group(4), "")), "null", "a second row of " + row.group(1));
            due.is(row.group(2).isBlank(), false, row.group(1) + " tells no answer");
        }
        Map<String, String> promised = new TreeMap<>();
        String face = document.substring(document.indexOf("public Roomandhour();"), document.indexOf("## Terms"));
        Matcher call = Pattern.compile("public \\w+ (\\w+)\\((.*?)\\)( throws .*?)?;").matcher(face);
        while (call.find()) {
            String parameters = call.group(2).replaceAll("\\w+ (\\w+)", "$1");
            promised.put(call.group(1) + "(" + parameters + ")", exceptions("" + call.group(3), "Exception"));
        }
        due.is(promised.size(), 41, "the calls of the document");
        due.is(told, promised, "the rows");
    }

    private static String exceptions(String text, String lastWord) {
        StringBuilder list = new StringBuilder();
        Matcher name = Pattern.compile("\\b(IndexOutOfBounds|IllegalArgument|IllegalState|NoSuchElement)" + lastWord + "\\b").matcher(text);
        while (name.find()) {
            list.append(name.group(1)).append(' ');
        }
        return list.toString();
    }

    private static void callsThatNeedATimetable(String page, String document) {
        due.promise("README, what to call first");
        String sentence = page.substring(page.indexOf("5. The calls that need"), page.indexOf("All others can be called"));
        TreeSet<String> told = new TreeSet<>();
        Matcher name = Pattern.compile("`([a-z]\\w*)`").matcher(sentence);
        while (name.find()) {
            told.add(name.group(1));
        }
        TreeSet<String> promised = new TreeSet<>();
        for (String promise : document.split("## Promise \\d+: ")) {
            if (promise.contains("Throws `IllegalStateException` if there is no timetable")) {
                promised.add(promise.substring(0, promise.indexOf('\n')).trim());
            }
        }
        due.is(told, promised, "the calls that need a timetable");
    }

    private static void kindsOfRules(String page) throws Exception {
        due.promise("README, the kinds of rules");
        int kinds = 0;
        Matcher row = Pattern.compile("(?m)^\\| `([A-Z_]+)` (\\d) \\|").matcher(page);
        while (row.find()) {
            due.is(Roomandhour.class.getField(row.group(1)).getInt(null), Integer.parseInt(row.group(2)), row.group(1));
            kinds++;
        }
        due.is(kinds, 8, "the kinds");
    }

    /** Each line of the example that has an answer behind it must give this answer. */
    private static void example(String page) throws Exception {
        due.promise("README, the example");
        String code = page.substring(page.indexOf("```java\n") + 8, page.indexOf("```\n", page.indexOf("```java\n") + 8));
        StringBuilder program = new StringBuilder("public final class Example { public static java.util.Map<String, Object> run() {\n"
            + "java.util.Map<String, Object> got = new java.util.HashMap<>();\n");
        Map<String, String> answers = new LinkedHashMap<>();
        Matcher line = Pattern.compile("(?m)^(\\w+ (\\w+) = .*?;)(?: +// ([^:\n]+).*)?$").matcher(code);
        while (line.find()) {
            program.append(line.group(1)).append('\n');
            if (line.group(3) != null) {
                answers.put(line.group(2), line.group(3).trim());
                program.append("got.put(\"").append(line.group(2)).append("\", ").append(line.group(2)).append(");\n");
            }
        }
        program.append("return got; } }\n");
        long lines = Stream.of(code.split("\n")).filter(text -> !text.isBlank()).count();
        due.is(answers.size() + 1L, lines, "lines with an answer, and the one that makes the school");
        Map<?, ?> got = run(program.toString());
        for (Map.Entry<String, String> answer : answers.entrySet()) {
            due.is("" + got.get(answer.getKey()), answer.getValue(), answer.getKey());
        }
    }

    private static Map<?, ?> run(String program) throws Exception {
        Path folder = Files.createTempDirectory("readme");
        try {
            Path file = Files.writeString(folder.resolve("Example.java"), program);
            int failed = ToolProvider.getSystemJavaCompiler().run(null, null, null, "-d", folder.toString(), "-proc:none",
                "-cp", System.getProperty("java.class.path"), file.toString());
            due.is(failed, 0, "the example compiles");
            try (URLClassLoader loader = new URLClassLoader(new URL[] {folder.toUri().toURL()})) {
                return (Map<?, ?>) loader.loadClass("Example").getMethod("run").invoke(null);
            }
        } finally {
            List<File> files = new ArrayList<>();
            try (Stream<Path> paths = Files.walk(folder)) {
                paths.sorted(Comparator.reverseOrder()).forEach(path -> files.add(path.toFile()));
            }
            files.forEach(File::delete);
        }
    }
}
