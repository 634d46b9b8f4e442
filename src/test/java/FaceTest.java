import java.lang.reflect.Constructor;
import java.lang.reflect.Field;
import java.lang.reflect.Member;
import java.lang.reflect.Method;
import java.lang.reflect.Modifier;
import java.util.Arrays;
import java.util.TreeSet;

/** The public face is the document's and nothing more. */
public final class FaceTest {
    private static final String[] FACE = {
        "public static final int BAD",
        "public static final int FULL",
        "public TombstoneText()",
        "public int insert(int, int, char)",
        "public int erase(int, int)",
        "public int deliver(int, int)",
        "public int sync(int, int)",
        "public int collect(int)",
        "public int length(int)",
        "public int at(int, int)",
        "public int position(int, int)",
        "public boolean same(int, int)",
        "public int operations()",
        "public int stamp(int)",
        "public int known(int, int, int)",
        "public boolean stable(int, int)",
        "public int kept(int)",
        "public int waiting(int)",
    };

    public static void main(String[] args) {
        Check check = new Check("FaceTest");
        Class<?> face = TombstoneText.class;
        check.due("modifiers", Modifier.toString(face.getModifiers()), "public final");
        check.due("package", face.getPackageName(), "");
        check.due("members", membersThatShow(face).toString(), new TreeSet<>(Arrays.asList(FACE)).toString());
        check.due("BAD", TombstoneText.BAD, -1);
        check.due("FULL", TombstoneText.FULL, -2);
        checkPrivateNames(check, face);
        check.end();
    }

    private static TreeSet<String> membersThatShow(Class<?> face) {
        TreeSet<String> found = new TreeSet<>();
        for (Field field : face.getDeclaredFields()) {
            if (shows(field)) {
                found.add(Modifier.toString(field.getModifiers()) + " " + field.getType().getSimpleName()
                    + " " + field.getName());
            }
        }
        for (Constructor<?> constructor : face.getDeclaredConstructors()) {
            if (shows(constructor)) {
                found.add(Modifier.toString(constructor.getModifiers()) + " TombstoneText"
                    + parameters(constructor.getParameterTypes()));
            }
        }
        for (Method method : face.getDeclaredMethods()) {
            if (shows(method)) {
                found.add(Modifier.toString(method.getModifiers()) + " " + method.getReturnType().getSimpleName()
                    + " " + method.getName() + parameters(method.getParameterTypes()));
            }
        }
        return found;
    }

    private static boolean shows(Member member) {
        return !Modifier.isPrivate(member.getModifiers()) && !member.isSynthetic();
    }

    private static String parameters(Class<?>[] types) {
        StringBuilder text = new StringBuilder("(");
        for (Class<?> type : types) {
            text.append(text.length() > 1 ? ", " : "").append(type.getSimpleName());
        }
        return text.append(")").toString();
    }

    private static void checkPrivateNames(Check check, Class<?> face) {
        TreeSet<String> names = new TreeSet<>();
        for (Method method : face.getMethods()) {
            names.add(method.getName());
        }
        for (Class<?> inside : face.getDeclaredClasses()) {
            check.due(inside.getName() + " is static", Modifier.isStatic(inside.getModifiers()), true);
            for (Method method : inside.getDeclaredMethods()) {
                check.due(inside.getName() + "." + method.getName() + " bears a public name",
                    names.contains(method.getName()), false);
            }
        }
        for (Method method : face.getDeclaredMethods()) {
            check.due("private " + method.getName() + " bears a public name",
                Modifier.isPrivate(method.getModifiers()) && names.contains(method.getName()), false);
        }
    }
}
