import java.lang.reflect.Constructor;
import java.lang.reflect.Field;
import java.lang.reflect.Method;
import java.lang.reflect.Modifier;
import java.util.ArrayList;
import java.util.List;
import java.util.Set;
import java.util.TreeSet;

/** The public face: what the document names stands, and nothing else can be seen. */
public final class FaceTest {
    private static final Due DUE = new Due();

    private static final Set<String> METHODS = new TreeSet<>(List.of(
        "int make(int,int,int)", "int put(int,int,int,long)", "int look(int,int)", "int give(int,long)",
        "int hand()", "long seen()", "int kind(int)", "int size(int)", "int same(int,int)",
        "int step(int,int,int,int,int)", "int alter(int,int,int,int,int,int)", "int clear()", "int run()",
        "int point()", "int begun()", "int where()", "int count(int)"));

    public static void main(String[] args) {
        theClass();
        theConstants();
        theConstructor();
        theMethods();
        theClassesInside();
        DUE.end("FaceTest");
    }

    private static void theClass() {
        int modifiers = RelayTrays.class.getModifiers();
        DUE.holds("the class is public", Modifier.isPublic(modifiers));
        DUE.holds("the class is final", Modifier.isFinal(modifiers));
        DUE.holds("the class has no package", RelayTrays.class.getPackageName().isEmpty());
    }

    private static void theConstants() {
        DUE.due("BAD", RelayTrays.BAD, -1);
        DUE.due("FULL", RelayTrays.FULL, -2);
        DUE.due("SPENT", RelayTrays.SPENT, -3);
        DUE.due("NONE", RelayTrays.NONE, -4);
        Set<String> seen = new TreeSet<>();
        for (Field field : RelayTrays.class.getDeclaredFields()) {
            if (!Modifier.isPrivate(field.getModifiers())) {
                seen.add(Modifier.toString(field.getModifiers()) + " " + field.getType() + " " + field.getName());
            }
            DUE.holds(field + " is no state that objects share",
                !Modifier.isStatic(field.getModifiers()) || Modifier.isFinal(field.getModifiers()));
        }
        Set<String> due = new TreeSet<>();
        for (String name : List.of("BAD", "FULL", "SPENT", "NONE")) {
            due.add("public static final int " + name);
        }
        DUE.holds("the constants are " + due + ": " + seen, seen.equals(due));
    }

    private static void theConstructor() {
        Constructor<?>[] all = RelayTrays.class.getDeclaredConstructors();
        DUE.due("constructors", all.length, 1);
        DUE.holds("the constructor is public", Modifier.isPublic(all[0].getModifiers()));
        DUE.due("its parameters", all[0].getParameterCount(), 0);
    }

    private static void theMethods() {
        Set<String> seen = new TreeSet<>();
        Set<String> names = new TreeSet<>();
        List<Method> hidden = new ArrayList<>();
        for (Method method : RelayTrays.class.getDeclaredMethods()) {
            if (Modifier.isPrivate(method.getModifiers())) {
                hidden.add(method);
            } else {
                seen.add(written(method));
                names.add(method.getName());
                DUE.holds(method + " is public and of the object",
                    Modifier.isPublic(method.getModifiers()) && !Modifier.isStatic(method.getModifiers()));
            }
        }
        DUE.holds("the methods are " + METHODS + ": " + seen, seen.equals(METHODS));
        for (Method method : hidden) {
            DUE.holds(method + " bears no public name", !names.contains(method.getName()));
        }
    }

    private static String written(Method method) {
        List<String> types = new ArrayList<>();
        for (Class<?> type : method.getParameterTypes()) {
            types.add(type.getName());
        }
        return method.getReturnType().getName() + " " + method.getName() + "(" + String.join(",", types) + ")";
    }

    private static void theClassesInside() {
        for (Class<?> inside : RelayTrays.class.getDeclaredClasses()) {
            int modifiers = inside.getModifiers();
            DUE.holds(inside + " is static", Modifier.isStatic(modifiers));
            DUE.holds(inside + " is not seen outside", !Modifier.isPublic(modifiers) && !Modifier.isProtected(modifiers));
        }
    }
}
