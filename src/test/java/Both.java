import java.lang.reflect.Method;
import java.lang.reflect.Modifier;
import java.util.Arrays;
import java.util.HashMap;
import java.util.Map;

/** An object and the model beside it: each call goes to both, and the model's answer is due. */
final class Both {
    private static final Map<String, Method> CLASS = methodsOf(PageTree.class);
    private static final Map<String, Method> MODEL = methodsOf(Model.class);

    private final Check check;
    private final String title;
    private final PageTree tree = new PageTree();
    private final Model model = new Model();
    private int calls;
    private boolean agree = true;

    Both(Check check, String title) {
        this.check = check;
        this.title = title;
    }

    /** The model's answer. */
    int call(String name, int... args) {
        int want = invoke(MODEL.get(name), model, args);
        int got = invoke(CLASS.get(name), tree, args);
        calls++;
        if (got != want) {
            agree = false;
            check.due(title + ", call " + calls + ": " + name + Arrays.toString(args), got, want);
        }
        return want;
    }

    int calls() {
        return calls;
    }

    boolean agree() {
        return agree;
    }

    /** To be read alone. */
    Model model() {
        return model;
    }

    /** The model's answer, without an object beside it. */
    static int invoke(Model model, Call call) {
        return invoke(MODEL.get(call.name()), model, call.args());
    }

    private static Map<String, Method> methodsOf(Class<?> type) {
        Map<String, Method> methods = new HashMap<>();
        for (Method method : type.getDeclaredMethods()) {
            if (method.getReturnType() == int.class && !Modifier.isPrivate(method.getModifiers())) {
                methods.put(method.getName(), method);
            }
        }
        return methods;
    }

    private static int invoke(Method method, Object on, int[] args) {
        try {
            return (Integer) method.invoke(on, Arrays.stream(args).boxed().toArray());
        } catch (ReflectiveOperationException e) {
            throw new IllegalStateException(method + " " + Arrays.toString(args), e);
        }
    }
}
