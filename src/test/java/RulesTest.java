import java.io.IOException;
import java.lang.reflect.Array;
import java.lang.reflect.Field;
import java.lang.reflect.Method;
import java.lang.reflect.Modifier;
import java.nio.file.Files;
import java.nio.file.Path;
import java.util.ArrayList;
import java.util.Collections;
import java.util.HashSet;
import java.util.IdentityHashMap;
import java.util.List;
import java.util.Set;
import java.util.regex.Matcher;
import java.util.regex.Pattern;

/** What can be seen from outside of the rules of LANGUAGE.md, and of the room that an object takes. */
public final class RulesTest {
    private static final Path SOURCE = Path.of("src/main/java/PageTree.java");
    private static final int MAX_CLASSES = 12;
    private static final int MAX_FIELDS = 20;
    private static final int MAX_PARAMETERS = 7;
    private static final int MAX_LINES = 60;
    /** 512 calls make nothing new: so many objects and elements are all that a run takes. */
    private static final int MAX_OBJECTS = 60;
    private static final int MAX_ELEMENTS = 20000;

    private static final Check CHECK = new Check();

    public static void main(String[] args) throws IOException, IllegalAccessException {
        List<String> lines = code(Files.readString(SOURCE));
        words(lines);
        imports(lines);
        objectsMade(lines);
        methodLengths(lines);
        classes();
        room();
        CHECK.end();
    }

    private static void rule(int number, String what, boolean kept) {
        CHECK.due("rule " + number + ", " + what, kept ? 1 : 0, 1);
    }

    /** The lines, without comments and without the signs of texts. */
    private static List<String> code(String source) {
        String plain = source.replaceAll("\"[^\"\n]*\"", "\"\"").replaceAll("//[^\n]*", "");
        Matcher comment = Pattern.compile("/\\*.*?\\*/", Pattern.DOTALL).matcher(plain);
        plain = comment.replaceAll(found -> found.group().replaceAll("[^\n]", ""));
        return List.of(plain.split("\n"));
    }

    private static void words(List<String> lines) {
        // The document wants no exception, so that no throw and no catch is due either.
        Pattern never = Pattern.compile("\\b(package|throw|throws|try|catch|finally|synchronized|assert|native|"
            + "volatile|transient|instanceof|Object|System|Thread|Random)\\b|->|::|static \\{|@");
        for (String line : lines) {
            rule(6, line, !never.matcher(line).find());
            rule(10, line, !line.contains("\" +") && !line.contains("+ \""));
        }
    }

    private static void imports(List<String> lines) {
        for (String line : lines) {
            rule(4, line, !line.startsWith("import ") || line.equals("import java.util.Arrays;"));
            Matcher library = Pattern.compile("\\b(Arrays|Math)\\.(\\w+)").matcher(line);
            while (library.find()) {
                rule(4, library.group(), Set.of("Arrays.fill", "Math.min").contains(library.group()));
            }
        }
    }

    /** Objects are made in constructors and for fields alone: those lines are no deeper than that. */
    private static void objectsMade(List<String> lines) {
        Pattern field = Pattern.compile(" {8}private final \\w+\\[\\] \\w+ = new \\w+\\[[A-Z_* ]+\\];");
        Pattern part = Pattern.compile(" {8}\\w+ = new [A-Z]\\w+\\((items)?\\);");
        for (String line : lines) {
            if (line.contains("new ")) {
                rule(12, line, field.matcher(line).matches() || part.matcher(line).matches());
            }
        }
    }

    private static void methodLengths(List<String> lines) {
        Pattern head = Pattern.compile("( {4}| {8})[a-z].*\\(.*\\) \\{");
        for (int from = 0; from < lines.size(); from++) {
            Matcher found = head.matcher(lines.get(from));
            if (found.matches()) {
                int to = lines.subList(from, lines.size()).indexOf(found.group(1) + "}");
                rule(11, lines.get(from), to >= 0 && to < MAX_LINES);
            }
        }
    }

    private static void classes() {
        List<Class<?>> all = new ArrayList<>(List.of(PageTree.class.getDeclaredClasses()));
        all.add(PageTree.class);
        rule(11, "classes", all.size() <= MAX_CLASSES);
        Set<String> face = new HashSet<>();
        for (Method method : PageTree.class.getDeclaredMethods()) {
            if (Modifier.isPublic(method.getModifiers())) {
                face.add(method.getName());
            }
        }
        for (Class<?> type : all) {
            long fields = List.of(type.getDeclaredFields()).stream()
                .filter(each -> !Modifier.isStatic(each.getModifiers())).count();
            rule(11, type + ": fields", fields <= MAX_FIELDS);
            for (Method method : type.getDeclaredMethods()) {
                rule(11, method + ": parameters", method.getParameterCount() <= MAX_PARAMETERS);
                rule(1, method + ": its name", Modifier.isPublic(method.getModifiers())
                    || !face.contains(method.getName()));
            }
        }
    }

    private static void room() throws IllegalAccessException {
        Set<Object> objects = Collections.newSetFromMap(new IdentityHashMap<>());
        int elements = count(new PageTree(), objects);
        rule(12, objects.size() + " objects", objects.size() <= MAX_OBJECTS);
        rule(12, elements + " elements", elements <= MAX_ELEMENTS);
    }

    /** The fields and elements of an object and of those that it holds, each object once. */
    private static int count(Object object, Set<Object> objects) throws IllegalAccessException {
        if (object == null || !objects.add(object)) {
            return 0;
        }
        if (object.getClass().isArray()) {
            return Array.getLength(object);
        }
        int all = 0;
        for (Class<?> type = object.getClass(); type != Object.class; type = type.getSuperclass()) {
            for (Field field : type.getDeclaredFields()) {
                if (!Modifier.isStatic(field.getModifiers())) {
                    field.setAccessible(true);
                    all += 1 + (field.getType().isPrimitive() ? 0 : count(field.get(object), objects));
                }
            }
        }
        return all;
    }
}
