import java.lang.reflect.Constructor;
import java.lang.reflect.Field;
import java.lang.reflect.Method;
import java.lang.reflect.Modifier;
import java.util.Arrays;
import java.util.HashSet;
import java.util.Set;

/** The public face is the document's, and nothing else is to be seen from outside. */
final class FaceTest {
    private static final String[] METHODS = {
        "action 2", "count 1", "on 1", "order 3", "partition 1", "port 1", "process 4", "run 1", "semaphore 1", "start 1",
        "state 2", "window 2",
    };

    public static void main(String[] args) {
        constants();
        methods();
        fields();
        constructor();
        classesInside();
        Check.end();
    }

    private static void constants() {
        Check.due("REFUSED", WindowPlan.REFUSED, -1);
        Check.due("FULL", WindowPlan.FULL, -2);
        Check.due("OFF", WindowPlan.OFF, 0);
        Check.due("ON", WindowPlan.ON, 1);
        Check.due("STOPPED", WindowPlan.STOPPED, 2);
        Check.due("RESTING", WindowPlan.RESTING, 0);
        Check.due("READY", WindowPlan.READY, 1);
        Check.due("WAITING", WindowPlan.WAITING, 2);
    }

    private static void methods() {
        Set<String> seen = new HashSet<>();
        Set<String> due = new HashSet<>(Arrays.asList(METHODS));
        for (Method method : WindowPlan.class.getDeclaredMethods()) {
            String text = method.getName() + " " + method.getParameterCount();
            if (Modifier.isPrivate(method.getModifiers())) {
                for (String name : METHODS) {
                    Check.due("private " + text, method.getName().equals(name.split(" ")[0]) ? 1 : 0, 0);
                }
            } else {
                seen.add(text);
                Check.due(text + " is public, not static", method.getModifiers(), Modifier.PUBLIC);
                Check.due(text + " answers", method.getReturnType().getName(), "int");
                for (Class<?> type : method.getParameterTypes()) {
                    Check.due(text + " takes", type.getName(), "int");
                }
            }
        }
        Check.due("methods", seen.equals(due) ? "as due" : seen.toString(), "as due");
    }

    private static void fields() {
        int constants = 0;
        for (Field field : WindowPlan.class.getDeclaredFields()) {
            int modifiers = field.getModifiers();
            if (Modifier.isStatic(modifiers)) {
                Check.due(field.getName() + " is final", Modifier.isFinal(modifiers) ? 1 : 0, 1);
            }
            if (!Modifier.isPrivate(modifiers)) {
                constants++;
                Check.due(field.getName(), modifiers, Modifier.PUBLIC | Modifier.STATIC | Modifier.FINAL);
            }
        }
        Check.due("constants", constants, 8);
    }

    private static void constructor() {
        Constructor<?>[] all = WindowPlan.class.getDeclaredConstructors();
        Check.due("constructors", all.length, 1);
        Check.due("it is public", all[0].getModifiers(), Modifier.PUBLIC);
        Check.due("its parameters", all[0].getParameterCount(), 0);
        Check.due("the class", WindowPlan.class.getModifiers(), Modifier.PUBLIC | Modifier.FINAL);
    }

    private static void classesInside() {
        Class<?>[] inside = WindowPlan.class.getDeclaredClasses();
        Check.due("at most twelve classes", inside.length + 1 <= 12 ? 1 : 0, 1);
        for (Class<?> type : inside) {
            int modifiers = type.getModifiers();
            Check.due(type.getName() + " is static", Modifier.isStatic(modifiers) ? 1 : 0, 1);
            Check.due(type.getName() + " is not public", Modifier.isPublic(modifiers) ? 1 : 0, 0);
            int fields = 0;
            for (Field field : type.getDeclaredFields()) {
                fields += Modifier.isStatic(field.getModifiers()) ? 0 : 1;
            }
            Check.due(type.getName() + " has at most twenty fields", fields <= 20 ? 1 : 0, 1);
        }
    }
}
