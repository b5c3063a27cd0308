import java.lang.reflect.Constructor;
import java.lang.reflect.Field;
import java.lang.reflect.Method;
import java.lang.reflect.Modifier;
import java.util.Set;
import java.util.TreeSet;

/** The public face: the document's constant, constructor and methods, and no other visible member. */
public final class FaceTest {
    private static final String FACE = String.join("\n", new TreeSet<>(Set.of(
            "final NONE",
            "new()",
            "int type(long,int,) IllegalArgumentException IllegalStateException",
            "int wipe()",
            "int skeleton()",
            "int skeletonAt(int,)",
            "int scripts()",
            "int level()",
            "int odd()",
            "int words()",
            "int word(int,int,) IllegalArgumentException",
            "int register() IllegalArgumentException IllegalStateException",
            "int withdraw(int,) IndexOutOfBoundsException",
            "int ranked(int,) IndexOutOfBoundsException",
            "int nameAt(int,int,) IndexOutOfBoundsException",
            "int alike(int,) IndexOutOfBoundsException",
            "int lookalike(int,)")));

    public static void main(String[] args) {
        Check check = new Check();
        check.due("NONE", LookalikeDesk.NONE, -1);
        check.due("the face", String.join("\n", visibleMembers()), FACE);
        int modifiers = LookalikeDesk.class.getModifiers();
        check.due("the class's modifiers", Modifier.toString(modifiers), "public final");
        staticFieldsAreFinal(check, LookalikeDesk.class);
        noHiddenMethodHasAPublicName(check);
        check.end();
    }

    private static Set<String> visibleMembers() {
        Set<String> members = new TreeSet<>();
        for (Field field : LookalikeDesk.class.getDeclaredFields()) {
            if (!Modifier.isPrivate(field.getModifiers())) {
                members.add((Modifier.isFinal(field.getModifiers()) ? "final " : "") + field.getName());
            }
        }
        for (Constructor<?> constructor : LookalikeDesk.class.getDeclaredConstructors()) {
            members.add("new" + types(constructor.getParameterTypes()));
        }
        for (Method method : LookalikeDesk.class.getDeclaredMethods()) {
            if (!Modifier.isPrivate(method.getModifiers())) {
                members.add(told(method));
            }
        }
        return members;
    }

    private static String told(Method method) {
        StringBuilder told = new StringBuilder(method.getReturnType().getSimpleName());
        told.append(' ').append(method.getName()).append(types(method.getParameterTypes()));
        for (Class<?> thrown : method.getExceptionTypes()) {
            told.append(' ').append(thrown.getSimpleName());
        }
        return told.toString();
    }

    private static String types(Class<?>[] types) {
        StringBuilder told = new StringBuilder("(");
        for (Class<?> type : types) {
            told.append(type.getSimpleName()).append(',');
        }
        return told.append(')').toString();
    }

    private static void staticFieldsAreFinal(Check check, Class<?> type) {
        for (Field field : type.getDeclaredFields()) {
            if (Modifier.isStatic(field.getModifiers()) && !Modifier.isFinal(field.getModifiers())) {
                check.due("static field " + field, "changeable", "final");
            }
        }
        for (Class<?> inside : type.getDeclaredClasses()) {
            staticFieldsAreFinal(check, inside);
        }
    }

    private static void noHiddenMethodHasAPublicName(Check check) {
        Set<String> faceNames = new TreeSet<>();
        for (Method method : LookalikeDesk.class.getMethods()) {
            faceNames.add(method.getName());
        }
        for (Class<?> type : LookalikeDesk.class.getDeclaredClasses()) {
            for (Method method : type.getDeclaredMethods()) {
                check.due(method + " has a face name", String.valueOf(faceNames.contains(method.getName())), "false");
            }
        }
        for (Method method : LookalikeDesk.class.getDeclaredMethods()) {
            if (Modifier.isPrivate(method.getModifiers())) {
                check.due(method + " has a face name", String.valueOf(faceNames.contains(method.getName())), "false");
            }
        }
    }
}
