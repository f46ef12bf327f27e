import java.lang.reflect.Constructor;
import java.lang.reflect.Field;
import java.lang.reflect.Method;
import java.lang.reflect.Modifier;
import java.util.Set;
import java.util.TreeSet;

/** The public face of the document, and nothing beside it. */
public final class FaceTests {
    private static final String INDEX = "IndexOutOfBoundsException";
    private static final String ARGUMENT = "IllegalArgumentException";
    private static final String STATE = "IllegalStateException";

    private FaceTests() {
    }

    public static void main(String[] args) {
        constants();
        constructors();
        methods();
        privateNames();
        Check.end();
    }

    private static void constants() {
        Check.part("constants");
        Check.due("NONE", -1, Meeplehouse.NONE);
        Check.due("SHELF", 0, Meeplehouse.SHELF);
        Check.due("SERVED", 1, Meeplehouse.SERVED);
        Check.due("LENDING", 2, Meeplehouse.LENDING);
        Check.due("PLAYERS", 0, Meeplehouse.PLAYERS);
        Check.due("HURRY", 1, Meeplehouse.HURRY);
        Check.due("SHARE", 2, Meeplehouse.SHARE);
        Check.due("LENT", 3, Meeplehouse.LENT);
        Set<String> names = new TreeSet<>();
        for (Field field : Meeplehouse.class.getDeclaredFields()) {
            if (!Modifier.isPrivate(field.getModifiers())) {
                names.add(Modifier.toString(field.getModifiers()) + " " + field.getType() + " " + field.getName());
            }
        }
        Set<String> due = new TreeSet<>();
        for (String name : "NONE SHELF SERVED LENDING PLAYERS HURRY SHARE LENT".split(" ")) {
            due.add("public static final int " + name);
        }
        Check.same("fields", due.toString(), names.toString());
    }

    private static void constructors() {
        Check.part("class");
        Check.same("modifiers", "public final", Modifier.toString(Meeplehouse.class.getModifiers()));
        Constructor<?>[] all = Meeplehouse.class.getDeclaredConstructors();
        Check.due("constructors", 1, all.length);
        Check.same("constructor", "public Meeplehouse()", all[0].toString());
    }

    private static void methods() {
        Check.part("methods");
        Set<String> due = new TreeSet<>();
        add(due, "now waiting", 0);
        add(due, "waste wasteByAll", 1, ARGUMENT);
        add(due, "pass addTable", 1, ARGUMENT, STATE);
        add(due, "addTitle", 7, ARGUMENT, STATE);
        add(due, "arrive", 2, ARGUMENT, STATE);
        add(due, "tableOf tablesOf offers stateOf lenders copyOf depth", 1, INDEX);
        add(due, "offerAt pieces", 2, INDEX);
        add(due, "addCopy leave left ruling rulingFromBelow", 1, INDEX, STATE);
        add(due, "serve", 2, INDEX, STATE);
        add(due, "giveBack found", 3, INDEX, ARGUMENT, STATE);
        add(due, "addRule", 5, INDEX, ARGUMENT, STATE);
        Set<String> got = new TreeSet<>();
        for (Method method : Meeplehouse.class.getDeclaredMethods()) {
            if (!Modifier.isPrivate(method.getModifiers()) && !method.isSynthetic()) {
                got.add(method.toString());
            }
        }
        Check.due("methods", 26, due.size());
        Check.same("methods", due.toString(), got.toString());
    }

    private static void add(Set<String> due, String names, int parameters, String... thrown) {
        for (String name : names.split(" ")) {
            StringBuilder text = new StringBuilder("public int Meeplehouse." + name + "(");
            for (int i = 0; i < parameters; i++) {
                text.append(i == 0 ? "int" : ",int");
            }
            text.append(')');
            for (int i = 0; i < thrown.length; i++) {
                text.append(i == 0 ? " throws " : ",").append("java.lang.").append(thrown[i]);
            }
            due.add(text.toString());
        }
    }

    private static void privateNames() {
        Check.part("private methods");
        Set<String> face = new TreeSet<>();
        for (Method method : Meeplehouse.class.getMethods()) {
            face.add(method.getName());
        }
        for (Class<?> inside : Meeplehouse.class.getDeclaredClasses()) {
            int modifiers = inside.getModifiers();
            Check.due(inside + " is static and hidden", 1,
                Modifier.isStatic(modifiers) && !Modifier.isPublic(modifiers) && !Modifier.isProtected(modifiers) ? 1 : 0);
            for (Method method : inside.getDeclaredMethods()) {
                Check.due(method + " bears a name of the face", 0, face.contains(method.getName()) ? 1 : 0);
            }
        }
        for (Method method : Meeplehouse.class.getDeclaredMethods()) {
            boolean hidden = Modifier.isPrivate(method.getModifiers());
            Check.due(method + " bears a name of the face", 0, hidden && face.contains(method.getName()) ? 1 : 0);
        }
    }
}
