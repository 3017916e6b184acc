import java.lang.reflect.Constructor;
import java.lang.reflect.Field;
import java.lang.reflect.Method;
import java.lang.reflect.Modifier;
import java.util.TreeSet;

/** The class shows the document's face, and nothing else. */
public final class FaceTest {
    private static final String[] METHODS = {
        "int hill(int,int,int,int)", "int ofCell(int,int)", "int goats(int,int)", "int pace(int)",
        "int breadth(int)", "int coat(int,int)", "int ripe(int)",
        "int path(int,int,int,int,int,int,int)", "int fleece(int,int,int)", "int start(int)",
        "int whole(int)", "int stops(int)", "int reading(int,int,int)", "int back(int)",
        "int kinds(int)", "int paces()", "int eatings(int)", "long odds(int,int,int)",
        "int sheet(int,int,int)", "int lose(int)", "int put(int,int,int)", "long cell(int,int,int)",
        "int copy(int,int,int,int,int)", "int tell(int)", "int trod(int)", "int as(int,int)",
        "int trace()", "int fault()", "int many(int)"};
    private static final String[] CONSTANTS = {
        "int UNKNOWN", "int OUTSIDE", "int STATE", "int FULL", "int NONE", "long LOST"};

    public static void main(String[] args) {
        TreeSet<String> shown = new TreeSet<>();
        TreeSet<String> hidden = new TreeSet<>();
        for (Method m : ShornHill.class.getDeclaredMethods()) {
            StringBuilder s = new StringBuilder();
            for (Class<?> p : m.getParameterTypes()) {
                s.append(s.length() > 0 ? "," : "").append(p.getName());
            }
            boolean isFace = m.getModifiers() == Modifier.PUBLIC;
            if (isFace) {
                shown.add(m.getReturnType() + " " + m.getName() + "(" + s + ")");
            } else {
                Checks.due(m + " is private", m.getModifiers() & Modifier.PRIVATE, Modifier.PRIVATE);
                hidden.add(m.getName());
            }
        }
        same("methods", shown, METHODS);
        for (String name : hidden) {
            for (String face : METHODS) {
                Checks.due(name + " is a name of the face", face.contains(" " + name + "(") ? 1 : 0, 0);
            }
        }
        TreeSet<String> constants = new TreeSet<>();
        for (Field f : ShornHill.class.getDeclaredFields()) {
            if (!Modifier.isPrivate(f.getModifiers())) {
                int due = Modifier.PUBLIC | Modifier.STATIC | Modifier.FINAL;
                Checks.due(f + " is a public constant", f.getModifiers(), due);
                constants.add(f.getType() + " " + f.getName());
            }
        }
        same("constants", constants, CONSTANTS);
        Constructor<?>[] made = ShornHill.class.getDeclaredConstructors();
        Checks.due("constructors", made.length, 1);
        Checks.due("constructor is public", made[0].getModifiers(), Modifier.PUBLIC);
        Checks.due("class", ShornHill.class.getModifiers(), Modifier.PUBLIC | Modifier.FINAL);
        values();
        Checks.end();
    }

    private static void same(String what, TreeSet<String> got, String[] want) {
        TreeSet<String> due = new TreeSet<>(java.util.List.of(want));
        if (!got.equals(due)) {
            Checks.due(what + " " + got + " for " + due, 1, 0);
        }
    }

    private static void values() {
        Checks.due("UNKNOWN", ShornHill.UNKNOWN, -1);
        Checks.due("OUTSIDE", ShornHill.OUTSIDE, -2);
        Checks.due("STATE", ShornHill.STATE, -3);
        Checks.due("FULL", ShornHill.FULL, -4);
        Checks.due("NONE", ShornHill.NONE, -9);
        Checks.due("LOST", ShornHill.LOST, Long.MIN_VALUE);
    }
}
