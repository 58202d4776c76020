import java.lang.reflect.Constructor;
import java.lang.reflect.Field;
import java.lang.reflect.Member;
import java.lang.reflect.Method;
import java.lang.reflect.Modifier;
import java.util.ArrayList;
import java.util.Arrays;
import java.util.List;
import java.util.TreeSet;

/** The public face, and rules 1 and 5 of LANGUAGE.md as far as reflection shows them. */
public final class FaceTest {
    private static final String[] FACE = {
        "int module(int, int)", "int cord(int, int, int)", "int from(int, int)", "int knob(int, int, int)",
        "int table(int, int)", "int write(int, int, int)", "int block(int)", "int back(int)", "int keep(int)",
        "int recall(int)", "int take(int)", "int equal(int, int)", "int row(int, int)", "double sample(int, int)",
        "boolean isNone(int, int)", "int order(int)", "int trace(int)", "int finding(int)", "int count(int)",
    };

    public static void main(String[] args) {
        Due due = new Due("FaceTest");
        int modifiers = CordBay.class.getModifiers();
        due.is("the class is public and final", Modifier.isPublic(modifiers) && Modifier.isFinal(modifiers), true);
        Constructor<?>[] constructors = CordBay.class.getDeclaredConstructors();
        due.is("how many constructors", constructors.length, 1);
        due.is("the constructor is public and takes nothing",
            Modifier.isPublic(constructors[0].getModifiers()) && constructors[0].getParameterCount() == 0, true);
        methods(due);
        fields(due);
        due.end();
    }

    private static void methods(Due due) {
        TreeSet<String> open = new TreeSet<>();
        TreeSet<String> openNames = new TreeSet<>();
        for (Method method : CordBay.class.getDeclaredMethods()) {
            if (!Modifier.isPrivate(method.getModifiers())) {
                open.add(signature(method));
                openNames.add(method.getName());
            }
        }
        due.is("the methods of the face: " + open, open.equals(new TreeSet<>(Arrays.asList(FACE))), true);
        for (Method method : privateMethods()) {
            due.is("private " + method.getName() + " bears a public name", openNames.contains(method.getName()), false);
        }
    }

    private static List<Method> privateMethods() {
        List<Method> found = new ArrayList<>();
        for (Method method : CordBay.class.getDeclaredMethods()) {
            if (Modifier.isPrivate(method.getModifiers())) {
                found.add(method);
            }
        }
        for (Class<?> inside : CordBay.class.getDeclaredClasses()) {
            found.addAll(Arrays.asList(inside.getDeclaredMethods()));
        }
        return found;
    }

    private static void fields(Due due) {
        for (Field field : CordBay.class.getDeclaredFields()) {
            due.is(field.getName() + " is private", isPrivate(field), true);
        }
        List<Class<?>> all = new ArrayList<>(Arrays.asList(CordBay.class.getDeclaredClasses()));
        all.add(CordBay.class);
        for (Class<?> inside : all) {
            for (Field field : inside.getDeclaredFields()) {
                boolean changeable = Modifier.isStatic(field.getModifiers()) && !Modifier.isFinal(field.getModifiers());
                due.is(field.getName() + " is changeable static state", changeable, false);
            }
        }
    }

    private static boolean isPrivate(Member member) {
        return Modifier.isPrivate(member.getModifiers());
    }

    private static String signature(Method method) {
        StringBuilder text = new StringBuilder();
        text.append(method.getReturnType().getSimpleName()).append(' ').append(method.getName()).append('(');
        for (int i = 0; i < method.getParameterCount(); i++) {
            text.append(i == 0 ? "" : ", ").append(method.getParameterTypes()[i].getSimpleName());
        }
        return text.append(')').toString();
    }
}
