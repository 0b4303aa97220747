import java.lang.reflect.Constructor;
import java.lang.reflect.Field;
import java.lang.reflect.Method;
import java.lang.reflect.Modifier;
import java.util.Set;
import java.util.TreeSet;

/** The class has the document's face, and no more than that. */
final class FaceTest {
    private static final String I = "IndexOutOfBoundsException";
    private static final String A = "IllegalArgumentException";
    private static final String S = "IllegalStateException";

    public static void main(String[] args) {
        Set<String> due = new TreeSet<>();
        due.add("public void open 2 " + I + " " + A + " " + S);
        due.add("public void fare 3 " + I + " " + A);
        due.add("public int part 3 " + I + " " + A + " " + S);
        due.add("public int buy 2 " + I + " " + A + " " + S);
        due.add("public int wish 2 " + I + " " + A + " " + S);
        due.add("public int cancel 1 " + I + " " + S);
        due.add("public int ticket 2 " + I + " " + A);
        due.add("public long price 1 " + I);
        due.add("public int hand 5 " + I + " " + A + " " + S);
        due.add("public int share 3 " + I + " " + A);
        due.add("public int send 2 " + I + " " + A);
        due.add("public int arrive 2 " + I + " " + A);
        due.add("public int receipt 2 " + I + " " + A);
        due.add("public int lose 2 " + I + " " + A);
        due.add("public int crash 1 " + I);
        due.add("public int rights 3 " + I);
        due.add("public int air 2 " + I);
        due.add("public int sold 2 " + I);
        due.add("public int wishes 1 " + I);
        due.add("public long till 1 " + I);
        due.add("public constructor 0");
        due.add("public static final int NONE");
        Check.same("the face", members(), due);
        Check.same("the class", Modifier.toString(IslandRights.class.getModifiers()), "public final");
        Check.same("NONE", IslandRights.NONE, -1);
        Check.same("private methods with a public one's name", sharedNames(), new TreeSet<String>());
        Check.end();
    }

    private static Set<String> members() {
        Set<String> members = new TreeSet<>();
        for (Method method : IslandRights.class.getDeclaredMethods()) {
            if (!Modifier.isPrivate(method.getModifiers())) {
                members.add(signature(method));
            }
        }
        for (Constructor<?> constructor : IslandRights.class.getDeclaredConstructors()) {
            members.add(Modifier.toString(constructor.getModifiers()) + " constructor "
                    + constructor.getParameterCount());
        }
        for (Field field : IslandRights.class.getDeclaredFields()) {
            if (!Modifier.isPrivate(field.getModifiers())) {
                members.add(Modifier.toString(field.getModifiers()) + " " + field.getType() + " "
                        + field.getName());
            }
        }
        return members;
    }

    /** Rule 1 of LANGUAGE.md: no private method bears the name of a public one. */
    private static Set<String> sharedNames() {
        Set<String> open = new TreeSet<>();
        Set<String> hidden = new TreeSet<>();
        for (Method method : IslandRights.class.getDeclaredMethods()) {
            (Modifier.isPrivate(method.getModifiers()) ? hidden : open).add(method.getName());
        }
        for (Class<?> inside : IslandRights.class.getDeclaredClasses()) {
            for (Method method : inside.getDeclaredMethods()) {
                hidden.add(method.getName());
            }
        }
        hidden.retainAll(open);
        return hidden;
    }

    private static String signature(Method method) {
        StringBuilder text = new StringBuilder(Modifier.toString(method.getModifiers()));
        text.append(' ').append(method.getReturnType()).append(' ').append(method.getName());
        int ints = 0;
        for (Class<?> type : method.getParameterTypes()) {
            ints += type == int.class ? 1 : 100;
        }
        text.append(' ').append(ints);
        for (Class<?> type : method.getExceptionTypes()) {
            text.append(' ').append(type.getSimpleName());
        }
        return text.toString();
    }
}
