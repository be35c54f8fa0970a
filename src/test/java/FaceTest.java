import java.lang.reflect.Constructor;
import java.lang.reflect.Field;
import java.lang.reflect.Method;
import java.lang.reflect.Modifier;
import java.util.Set;
import java.util.TreeSet;

/** The class has the document's face and shows nothing else (rules 1 and 5 of LANGUAGE.md). */
public final class FaceTest {
    private static final Set<String> FACE = Set.of(
        "node(int,int)", "page(int)", "list(int,int)", "inherit(int,int,int)", "of(int,int)",
        "pages()", "at(int)", "about(int,int)", "kid(int,int)", "mend()", "told(int,int)",
        "move(int,int)", "copy(int)", "remove(int)", "label(int,int,int)", "text(int,int)",
        "name(int,int)", "look(int)", "balance()", "count(int)");

    private static final Check CHECK = new Check();

    public static void main(String[] args) {
        int modifiers = PageTree.class.getModifiers();
        CHECK.due("public", Modifier.isPublic(modifiers) ? 1 : 0, 1);
        CHECK.due("final", Modifier.isFinal(modifiers) ? 1 : 0, 1);
        constructors();
        methods();
        fieldsOf(PageTree.class);
        for (Class<?> inside : PageTree.class.getDeclaredClasses()) {
            int shown = inside.getModifiers() & (Modifier.PUBLIC | Modifier.PROTECTED);
            CHECK.due(inside + " shown", shown, 0);
            CHECK.due(inside + " static", Modifier.isStatic(inside.getModifiers()) ? 1 : 0, 1);
            fieldsOf(inside);
        }
        CHECK.end();
    }

    private static void constructors() {
        Constructor<?>[] all = PageTree.class.getDeclaredConstructors();
        CHECK.due("constructors", all.length, 1);
        CHECK.due("its parameters", all[0].getParameterCount(), 0);
        CHECK.due("its being public", Modifier.isPublic(all[0].getModifiers()) ? 1 : 0, 1);
    }

    private static void methods() {
        Set<String> missing = new TreeSet<>(FACE);
        for (Method method : PageTree.class.getDeclaredMethods()) {
            StringBuilder text = new StringBuilder(method.getName()).append('(');
            for (Class<?> type : method.getParameterTypes()) {
                text.append(text.charAt(text.length() - 1) == '(' ? "" : ",").append(type.getName());
            }
            String signature = text.append(')').toString();
            boolean inFace = FACE.contains(signature);
            missing.remove(signature);
            CHECK.due(signature + " public", Modifier.isPublic(method.getModifiers()) ? 1 : 0, inFace ? 1 : 0);
            CHECK.due(signature + " private", Modifier.isPrivate(method.getModifiers()) ? 1 : 0, inFace ? 0 : 1);
            if (inFace) {
                CHECK.due(signature + " answers int", method.getReturnType() == int.class ? 1 : 0, 1);
                CHECK.due(signature + " static", Modifier.isStatic(method.getModifiers()) ? 1 : 0, 0);
            }
        }
        CHECK.due("missing " + missing, missing.size(), 0);
    }

    private static void fieldsOf(Class<?> type) {
        for (Field field : type.getDeclaredFields()) {
            int modifiers = field.getModifiers();
            if (type == PageTree.class) {
                CHECK.due(field + " private", Modifier.isPrivate(modifiers) ? 1 : 0, 1);
            }
            if (Modifier.isStatic(modifiers)) {
                CHECK.due(field + " final", Modifier.isFinal(modifiers) ? 1 : 0, 1);
            }
        }
    }
}
