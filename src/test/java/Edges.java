import java.lang.reflect.InvocationTargetException;
import java.lang.reflect.Method;
import java.nio.file.Files;
import java.nio.file.Path;
import java.util.ArrayList;
import java.util.Arrays;
import java.util.Comparator;
import java.util.HashMap;
import java.util.List;
import java.util.Map;
import java.util.TreeSet;

/** Runs all tests of a class that are marked with Edge, and looks whether their sentences stand in the document. */
final class Edges {
    private static final Due due = Schools.due;

    /** Each of these parts of the document must have a test at least. */
    static void run(Class<?> tests, String... parts) throws Exception {
        Map<String, String> document = document();
        TreeSet<String> tested = new TreeSet<>();
        List<Method> methods = new ArrayList<>(Arrays.asList(tests.getDeclaredMethods()));
        methods.sort(Comparator.comparing(Method::getName));
        int number = 0;
        for (Method method : methods) {
            Edge edge = method.getAnnotation(Edge.class);
            if (edge == null) {
                continue;
            }
            number++;
            tested.add(edge.of());
            due.promise(edge.of() + " (" + method.getName() + ")");
            due.is(document.getOrDefault(edge.of(), "").contains(plain(edge.says())), true, "the document says: " + edge.says());
            int before = due.asked();
            method.setAccessible(true);
            try {
                method.invoke(null);
            } catch (InvocationTargetException thrown) {
                due.is("" + thrown.getCause(), "", "what the test throws");
            }
            due.is(due.asked() > before, true, "something is asked");
        }
        for (String part : parts) {
            due.promise(part);
            due.is(tested.contains(part), true, "a test of " + part);
        }
        System.out.print(number + " sentences, ");
        due.end();
    }

    /** The names of the promises from one number to another one. */
    static String[] promises(int from, int to, String... others) {
        List<String> list = new ArrayList<>(Arrays.asList(others));
        for (int k = from; k <= to; k++) {
            list.add("Promise " + k);
        }
        return list.toArray(new String[0]);
    }

    /** The document by its headings; the sections of the terms are parts of their own. */
    private static Map<String, String> document() throws Exception {
        Map<String, StringBuilder> texts = new HashMap<>();
        String part = "";
        for (String line : Files.readAllLines(Path.of("../shared/DOC.md"))) {
            if (line.startsWith("## ")) {
                part = line.substring(3).split(":")[0];
            } else if (line.matches("[1-6]\\. .*")) {
                part = "Section " + line.charAt(0);
            }
            texts.computeIfAbsent(part, name -> new StringBuilder()).append(line).append('\n');
        }
        Map<String, String> plain = new HashMap<>();
        texts.forEach((name, text) -> plain.put(name, plain(text.toString())));
        return plain;
    }

    private static String plain(String text) {
        return text.replace("`", "").replaceAll("\\s+", " ").trim();
    }
}
