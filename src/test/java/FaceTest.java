import java.lang.reflect.Constructor;
import java.lang.reflect.Field;
import java.lang.reflect.Method;
import java.lang.reflect.Modifier;
import java.nio.file.Files;
import java.nio.file.Path;
import java.util.ArrayList;
import java.util.Arrays;
import java.util.List;
import java.util.TreeSet;
import java.util.regex.Matcher;
import java.util.regex.Pattern;

/** The class has the face of the document and no other (rule 1 of LANGUAGE.md). */
public final class FaceTest {
    private static int wrong = 0;

    public static void main(String[] args) throws Exception {
        String document = Files.readString(Path.of("../shared/DOC.md"));
        int begin = document.indexOf("public final class Roomandhour");
        String face = document.substring(begin, document.indexOf("```", begin));
        TreeSet<String> due = new TreeSet<>();
        Matcher m = Pattern.compile("public (\\w+) (\\w+)\\((.*?)\\)( throws (.*?))?;").matcher(face);
        while (m.find()) {
            due.add(m.group(1) + " " + m.group(2) + "(" + types(m.group(3)) + ")" + (m.group(5) == null ? "" : " throws " + m.group(5)));
        }
        check(due.size() == 41, "the document has " + due.size() + " methods besides the constructor");
        TreeSet<String> got = new TreeSet<>();
        TreeSet<String> publicNames = new TreeSet<>();
        TreeSet<String> privateNames = new TreeSet<>();
        Class<?> type = Roomandhour.class;
        for (Method method : type.getDeclaredMethods()) {
            if (Modifier.isPublic(method.getModifiers())) {
                got.add(told(method));
                publicNames.add(method.getName());
                check(!Modifier.isStatic(method.getModifiers()), method + " is static");
            } else {
                check(Modifier.isPrivate(method.getModifiers()), method + " is neither public nor private");
                privateNames.add(method.getName());
            }
        }
        check(due.equals(got), "due are " + due + ", there are " + got);
        check(Modifier.isFinal(type.getModifiers()) && Modifier.isPublic(type.getModifiers()), "the class is not public and final");
        fields(type);
        Constructor<?>[] constructors = type.getDeclaredConstructors();
        check(constructors.length == 1 && constructors[0].getParameterCount() == 0 && Modifier.isPublic(constructors[0].getModifiers()),
            "another constructor than the public one");
        for (Class<?> inside : type.getDeclaredClasses()) {
            check(Modifier.isPrivate(inside.getModifiers()) && Modifier.isStatic(inside.getModifiers()), inside + " is not private and static");
            for (Method method : inside.getDeclaredMethods()) {
                privateNames.add(method.getName());
            }
        }
        privateNames.retainAll(publicNames);
        check(privateNames.isEmpty(), "names of the face are used again: " + privateNames);
        System.out.println(got.size() + " methods of the face, " + wrong + " wrong");
        if (wrong > 0) {
            System.exit(1);
        }
    }

    private static String types(String parameters) {
        List<String> list = new ArrayList<>();
        for (String parameter : parameters.split(", ")) {
            if (!parameter.isEmpty()) {
                list.add(parameter.split(" ")[0]);
            }
        }
        return String.join(", ", list);
    }

    private static String told(Method method) {
        List<String> parameters = new ArrayList<>();
        for (Class<?> parameter : method.getParameterTypes()) {
            parameters.add(parameter.getSimpleName());
        }
        List<String> thrown = new ArrayList<>();
        for (Class<?> exception : method.getExceptionTypes()) {
            thrown.add(exception.getSimpleName());
        }
        return method.getReturnType().getSimpleName() + " " + method.getName() + "(" + String.join(", ", parameters) + ")"
            + (thrown.isEmpty() ? "" : " throws " + String.join(", ", thrown));
    }

    private static void fields(Class<?> type) throws IllegalAccessException {
        String[] names = {"NONE", "NOT_THEN", "AT_MOST", "TOGETHER", "APART", "AHEAD", "NEAR", "IN_ROOM", "FREE"};
        for (Field field : type.getDeclaredFields()) {
            int k = Arrays.asList(names).indexOf(field.getName());
            if (Modifier.isPublic(field.getModifiers())) {
                check(k >= 0, field + " is not of the document");
            } else {
                check(Modifier.isPrivate(field.getModifiers()), field + " is neither public nor private");
            }
        }
        for (int k = 0; k < names.length; k++) {
            try {
                Field field = type.getDeclaredField(names[k]);
                int all = Modifier.PUBLIC | Modifier.STATIC | Modifier.FINAL;
                check((field.getModifiers() & all) == all && field.getType() == int.class && field.getInt(null) == k - 1, field + " is another one");
            } catch (NoSuchFieldException missing) {
                check(false, "there is no " + names[k]);
            }
        }
    }

    private static void check(boolean holds, String otherwise) {
        if (!holds) {
            wrong++;
            System.out.println(otherwise);
        }
    }
}
