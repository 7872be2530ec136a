import java.lang.reflect.Constructor;
import java.lang.reflect.Field;
import java.lang.reflect.Method;
import java.lang.reflect.Modifier;
import java.util.ArrayList;
import java.util.Collections;
import java.util.List;

/** The public face: its constants, constructor and methods, and nothing else that is not private. */
public final class FaceTest {
    private static final Check CHECK = new Check("FaceTest");

    private static final String[] CONSTANTS = {
        "UNKNOWN -1", "BAD_VALUE -2", "FULL -3", "TAKEN -4", "NONE -5", "NO_TAIL -6", "WORN -7",
    };

    private static final String[] METHODS = {
        "lay(int int int)", "layAll()", "takeOff(int)", "bend(int int)", "moveLead(int int)", "setWidth(int)",
        "changeTool()", "thread()", "pull(int int)", "sample(int int)", "type(char)", "clearText()",
        "undo()", "keep()", "restore()", "wire(int int)", "heightAt(int int)", "crossing(int int int)",
        "lead(int int)", "bestHeight(int int)", "laysLeft(int)", "count(int)",
    };

    public static void main(String[] args) throws IllegalAccessException {
        CHECK.due("public final", WireLoops.class.getModifiers(), Modifier.PUBLIC | Modifier.FINAL);
        constants();
        constructor();
        methods();
        inside();
        CHECK.end();
    }

    private static void constants() throws IllegalAccessException {
        List<String> found = new ArrayList<>();
        for (Field field : WireLoops.class.getDeclaredFields()) {
            int modifiers = field.getModifiers();
            if (Modifier.isStatic(modifiers)) {
                CHECK.due("final " + field.getName(), Modifier.isFinal(modifiers) ? 1 : 0, 1);
            }
            if (!Modifier.isPrivate(modifiers)) {
                CHECK.due(field.getName(), modifiers, Modifier.PUBLIC | Modifier.STATIC | Modifier.FINAL);
                found.add(field.getName() + " " + field.getInt(null));
            }
        }
        CHECK.same("constants", sorted(found), sorted(List.of(CONSTANTS)));
    }

    private static void constructor() {
        Constructor<?>[] constructors = WireLoops.class.getDeclaredConstructors();
        CHECK.due("constructors", constructors.length, 1);
        CHECK.due("its parameters", constructors[0].getParameterCount(), 0);
        CHECK.due("public", constructors[0].getModifiers(), Modifier.PUBLIC);
    }

    private static void methods() {
        List<String> found = new ArrayList<>();
        for (Method method : WireLoops.class.getDeclaredMethods()) {
            if (!Modifier.isPrivate(method.getModifiers())) {
                StringBuilder parameters = new StringBuilder();
                for (Class<?> parameter : method.getParameterTypes()) {
                    parameters.append(parameters.length() == 0 ? "" : " ").append(parameter.getName());
                }
                found.add(method.getName() + "(" + parameters + ")");
                CHECK.due(method.getName(), method.getModifiers(), Modifier.PUBLIC);
                CHECK.same(method.getName(), method.getReturnType().getName(), "int");
            }
        }
        CHECK.same("methods", sorted(found), sorted(List.of(METHODS)));
    }

    private static void inside() {
        for (Class<?> inside : WireLoops.class.getDeclaredClasses()) {
            int modifiers = inside.getModifiers();
            CHECK.due("static " + inside.getName(), Modifier.isStatic(modifiers) ? 1 : 0, 1);
            CHECK.due("not public " + inside.getName(), Modifier.isPublic(modifiers) ? 1 : 0, 0);
            privateNames(inside);
        }
        privateNames(WireLoops.class);
    }

    /** No private method bears the name of a public one. */
    private static void privateNames(Class<?> one) {
        for (Method method : one.getDeclaredMethods()) {
            String name = method.getName();
            for (String face : METHODS) {
                boolean borne = Modifier.isPrivate(method.getModifiers()) && face.startsWith(name + "(");
                CHECK.due(name + " is no name of the face", borne ? 1 : 0, 0);
            }
        }
    }

    private static String sorted(List<String> names) {
        List<String> copy = new ArrayList<>(names);
        Collections.sort(copy);
        return copy.toString();
    }
}
