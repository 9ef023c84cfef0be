import java.lang.reflect.Constructor;
import java.lang.reflect.Field;
import java.lang.reflect.Method;
import java.lang.reflect.Modifier;
import java.util.Set;
import java.util.TreeSet;

/** The public face is the document's, and nothing else can be seen from outside. */
public final class FaceTest {
    private static final Set<String> FACE = Set.of(
            "int stop(int,int,int)", "boolean freeze(int,boolean)", "boolean block(int,boolean)",
            "boolean out(int,int)", "boolean way(int,int,int)", "boolean hours(int,int)",
            "boolean extra(int)", "int run()", "int vehicleOf(int)", "int place(int)",
            "int moved(int)", "int carried(int)", "int send()", "int sent(int)", "boolean undo()",
            "int copy()", "int compare(int,int)", "long cost()", "int overtime(int)", "int next()");
    private static int wrong = 0;

    public static void main(String[] args) throws Exception {
        Class<DaySwaps> face = DaySwaps.class;
        check(Modifier.isPublic(face.getModifiers()) && Modifier.isFinal(face.getModifiers()), "public and final");
        checkMethods(face);
        checkFields(face);
        Constructor<?>[] constructors = face.getDeclaredConstructors();
        check(constructors.length == 1 && Modifier.isPublic(constructors[0].getModifiers()), "one public constructor");
        check(face.getConstructor(int.class) != null, "a constructor of one int");
        for (Class<?> inside : face.getDeclaredClasses()) {
            check(Modifier.isStatic(inside.getModifiers()), "static: " + inside);
            check(!Modifier.isPublic(inside.getModifiers()), "not public: " + inside);
        }
        System.out.println(wrong == 0 ? "the face is as due" : wrong + " wrong");
        if (wrong != 0) {
            System.exit(1);
        }
    }

    private static void checkMethods(Class<?> face) {
        Set<String> seen = new TreeSet<>();
        Set<String> names = new TreeSet<>();
        for (Method method : face.getDeclaredMethods()) {
            if (Modifier.isPublic(method.getModifiers())) {
                check(!Modifier.isStatic(method.getModifiers()), "not static: " + method);
                seen.add(signature(method));
                check(names.add(method.getName()), "one method of the name " + method.getName());
            }
        }
        check(seen.equals(new TreeSet<>(FACE)), "methods " + seen);
        for (Method method : face.getDeclaredMethods()) {
            if (!Modifier.isPublic(method.getModifiers())) {
                check(Modifier.isPrivate(method.getModifiers()), "private: " + method);
                check(!names.contains(method.getName()), "not a public name: " + method);
            }
        }
    }

    private static void checkFields(Class<?> face) throws Exception {
        Field none = face.getDeclaredField("NONE");
        int modifiers = none.getModifiers();
        check(Modifier.isPublic(modifiers) && Modifier.isStatic(modifiers) && Modifier.isFinal(modifiers), "NONE");
        check(none.getType() == int.class && none.getInt(null) == -1, "NONE is -1");
        for (Field field : face.getDeclaredFields()) {
            check(field.equals(none) || Modifier.isPrivate(field.getModifiers()), "private: " + field);
        }
    }

    private static String signature(Method method) {
        StringBuilder text = new StringBuilder();
        text.append(method.getReturnType()).append(' ').append(method.getName()).append('(');
        String comma = "";
        for (Class<?> type : method.getParameterTypes()) {
            text.append(comma).append(type);
            comma = ",";
        }
        return text.append(')').toString();
    }

    private static void check(boolean holds, String what) {
        if (!holds) {
            wrong++;
            System.out.println("does not hold: " + what);
        }
    }
}
