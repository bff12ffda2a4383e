import java.lang.reflect.Constructor;
import java.lang.reflect.Executable;
import java.lang.reflect.Field;
import java.lang.reflect.Method;
import java.lang.reflect.Modifier;
import java.util.ArrayList;
import java.util.Arrays;
import java.util.HashSet;
import java.util.List;
import java.util.Set;

/** The public face: what the document tells, and no other member that can be seen from outside. */
public final class FaceTest {
    private static final Due due = new Due("FaceTest");
    private static final String[] METHODS = {
        "row int int int", "set int int int", "copy int int int int int", "drop int", "feed long int", "wood", "orders",
        "fault", "undo", "go int", "tree int int", "sound int int", "slips int int", "cheapest int int int int int int",
        "tuned int int int", "plays int int int", "buzz int", "birds int int int int int", "hung int int int int",
        "missing int int int int", "image int", "restore int", "kind int int", "as int int int", "ask int int int",
        "trace int", "count int", "status",
    };

    public static void main(String[] args) {
        Class<?> face = WindHarp.class;
        due.is("public and final", face.getModifiers(), Modifier.PUBLIC | Modifier.FINAL);
        due.holds("no package", face.getPackageName().isEmpty());
        due.holds("nothing above it", face.getSuperclass() == Object.class && face.getInterfaces().length == 0);
        constants();
        due.is("constructors", face.getDeclaredConstructors().length, 1);
        for (Constructor<?> one : face.getDeclaredConstructors()) {
            due.is("constructor's modifiers", one.getModifiers(), Modifier.PUBLIC);
            due.is("constructor's parameters", one.getParameterCount(), 0);
        }
        methods();
        for (Class<?> inside : face.getDeclaredClasses()) {
            due.holds(inside + " is static", Modifier.isStatic(inside.getModifiers()));
            due.holds(inside + " is hidden", !Modifier.isPublic(inside.getModifiers()) && !Modifier.isProtected(inside.getModifiers()));
        }
        due.end();
    }

    private static void constants() {
        due.is("NONE", WindHarp.NONE, -1000000);
        due.is("BAD", WindHarp.BAD, -1000001);
        due.is("STATE", WindHarp.STATE, -1000002);
        due.is("FULL", WindHarp.FULL, -1000003);
        List<String> seen = new ArrayList<>();
        for (Field field : WindHarp.class.getDeclaredFields()) {
            boolean isConstant = Modifier.isStatic(field.getModifiers());
            due.holds(field + " is final if static", !isConstant || Modifier.isFinal(field.getModifiers()));
            if (!Modifier.isPrivate(field.getModifiers())) {
                seen.add(field.getName());
                due.is(field + "'s modifiers", field.getModifiers(), Modifier.PUBLIC | Modifier.STATIC | Modifier.FINAL);
                due.holds(field + " is an int", field.getType() == int.class);
            }
        }
        due.holds("constants " + seen, seen.equals(List.of("NONE", "BAD", "STATE", "FULL")));
    }

    private static String told(Executable one) {
        StringBuilder text = new StringBuilder(one.getName());
        for (Class<?> type : one.getParameterTypes()) {
            text.append(' ').append(type.getName());
        }
        return text.toString();
    }

    private static void methods() {
        Set<String> wanted = new HashSet<>(Arrays.asList(METHODS));
        Set<String> names = new HashSet<>();
        for (String method : METHODS) {
            names.add(method.split(" ")[0]);
        }
        for (Method method : WindHarp.class.getDeclaredMethods()) {
            if (Modifier.isPrivate(method.getModifiers())) {
                due.holds(method + " bears a name of its own", !names.contains(method.getName()));
                continue;
            }
            due.holds(method + " is of the face", wanted.remove(told(method)));
            due.is(method + "'s modifiers", method.getModifiers(), Modifier.PUBLIC);
            due.holds(method + " answers an int", method.getReturnType() == int.class);
        }
        due.holds("missing of the face: " + wanted, wanted.isEmpty());
        for (Class<?> inside : WindHarp.class.getDeclaredClasses()) {
            for (Method method : inside.getDeclaredMethods()) {
                due.holds(method + " bears a name of its own", !names.contains(method.getName()));
            }
        }
    }
}
