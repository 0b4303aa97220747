import java.lang.reflect.InvocationTargetException;
import java.lang.reflect.Method;
import java.util.HashMap;
import java.util.Map;

/** An object of the program or of the model, whose methods are called by their names. */
final class Subject {
    /** What void methods answer. */
    static final String DONE = "done";
    /** The document says nothing of later calls, so no test may make them. */
    private static final int MOST_CALLS = 512;
    private static final Map<String, Method> OF_PROGRAM = methodsOf(IslandRights.class);
    private static final Map<String, Method> OF_MODEL = methodsOf(Model.class);

    private final Object object;
    private final Map<String, Method> methods;
    private int calls = 0;

    private Subject(Object object, Map<String, Method> methods) {
        this.object = object;
        this.methods = methods;
    }

    static Subject program() {
        return new Subject(new IslandRights(), OF_PROGRAM);
    }

    static Subject of(Model model) {
        return new Subject(model, OF_MODEL);
    }

    private static Map<String, Method> methodsOf(Class<?> owner) {
        Map<String, Method> methods = new HashMap<>();
        for (Method method : owner.getDeclaredMethods()) {
            methods.put(method.getName(), method);
        }
        return methods;
    }

    /** A call that is written as "send(0, 1)". */
    record Call(String name, int... arguments) {
        static Call of(String text) {
            String[] words = text.trim().split("[(), ]+");
            int[] arguments = new int[words.length - 1];
            for (int i = 0; i < arguments.length; i++) {
                arguments[i] = Integer.parseInt(words[i + 1]);
            }
            return new Call(words[0], arguments);
        }

        @Override
        public String toString() {
            return text(name, arguments);
        }
    }

    Object answer(Call call) {
        return answer(call.name(), call.arguments());
    }

    /** A Long, DONE, or the exception's name, as the document has it. */
    Object answer(String name, int... arguments) {
        calls++;
        if (calls > MOST_CALLS) {
            throw new AssertionError("a test made more than 512 calls of one object");
        }
        Object[] boxed = new Object[arguments.length];
        for (int i = 0; i < boxed.length; i++) {
            boxed[i] = arguments[i];
        }
        try {
            Object answer = methods.get(name).invoke(object, boxed);
            return answer == null ? DONE : Long.valueOf(((Number) answer).longValue());
        } catch (InvocationTargetException e) {
            return nameOf(e.getCause());
        } catch (IllegalAccessException e) {
            throw new AssertionError(e);
        }
    }

    private static String nameOf(Throwable thrown) {
        return thrown.getClass().getSimpleName().replace("Exception", "");
    }

    static String text(String name, int... arguments) {
        StringBuilder text = new StringBuilder(name).append('(');
        for (int i = 0; i < arguments.length; i++) {
            text.append(i == 0 ? "" : ", ").append(arguments[i]);
        }
        return text.append(')').toString();
    }
}
