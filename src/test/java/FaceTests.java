import java.lang.reflect.Constructor;
import java.lang.reflect.Field;
import java.lang.reflect.Method;
import java.lang.reflect.Modifier;
import java.util.Set;
import java.util.TreeSet;

/** The public face is that of the document, with nothing beside it (rule 1 of the language). */
public final class FaceTests {
    private static final Set<String> FACE = Set.of(
            "boolean slot(int,int,int)", "int value(int,int)", "boolean decay(int,int)",
            "boolean limits(int,int,int,int)", "int reading(int,int)", "int ask(int,int)",
            "int give(int,int)", "int now()", "long work()", "int spent(int,int)",
            "boolean held()", "int ticks()", "int dose(int,int)", "int doses()", "int last(int)");

    public static void main(String[] args) {
        theClass();
        theConstants();
        theConstructor();
        theMethods();
        theClassesInside();
        Due.end();
    }

    private static void theClass() {
        int is = PumpDesk.class.getModifiers();
        Due.is("PumpDesk is public and final", Modifier.isPublic(is) && Modifier.isFinal(is), true);
    }

    private static void theConstants() {
        Due.is("NONE", PumpDesk.NONE, -1);
        for (Field field : PumpDesk.class.getDeclaredFields()) {
            boolean inFace = field.getName().equals("NONE");
            int is = field.getModifiers();
            Due.is("private " + field, Modifier.isPrivate(is), !inFace);
            if (Modifier.isStatic(is)) {
                Due.is("final " + field, Modifier.isFinal(is), true);
            }
            if (inFace) {
                Due.is("public static " + field, Modifier.isPublic(is) && Modifier.isStatic(is), true);
                Due.is("int " + field, field.getType() == int.class, true);
            }
        }
    }

    private static void theConstructor() {
        Constructor<?>[] all = PumpDesk.class.getDeclaredConstructors();
        Due.is("constructors", all.length, 1);
        Due.is("its parameters", all[0].getParameterCount(), 0);
        Due.is("it is public", Modifier.isPublic(all[0].getModifiers()), true);
    }

    private static void theMethods() {
        Set<String> open = new TreeSet<>();
        Set<String> openNames = new TreeSet<>();
        Set<String> hiddenNames = new TreeSet<>();
        for (Method method : PumpDesk.class.getDeclaredMethods()) {
            if (Modifier.isPrivate(method.getModifiers())) {
                hiddenNames.add(method.getName());
            } else {
                Due.is("public " + method, Modifier.isPublic(method.getModifiers()), true);
                Due.is("of the object: " + method, Modifier.isStatic(method.getModifiers()), false);
                open.add(signature(method));
                openNames.add(method.getName());
            }
        }
        Due.is("methods of the face " + open, open.equals(FACE), true);
        hiddenNames.retainAll(openNames);
        Due.is("private methods with a public name " + hiddenNames, hiddenNames.isEmpty(), true);
    }

    private static String signature(Method method) {
        StringBuilder text = new StringBuilder(method.getReturnType().getName());
        text.append(' ').append(method.getName()).append('(');
        String comma = "";
        for (Class<?> parameter : method.getParameterTypes()) {
            text.append(comma).append(parameter.getName());
            comma = ",";
        }
        return text.append(')').toString();
    }

    private static void theClassesInside() {
        for (Class<?> inside : PumpDesk.class.getDeclaredClasses()) {
            int is = inside.getModifiers();
            Due.is("hidden " + inside, Modifier.isPublic(is) || Modifier.isProtected(is), false);
            Due.is("static " + inside, Modifier.isStatic(is), true);
        }
    }
}
