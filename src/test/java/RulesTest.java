import java.lang.reflect.Field;
import java.lang.reflect.Method;
import java.lang.reflect.Modifier;
import java.nio.file.Files;
import java.nio.file.Path;
import java.util.List;
import java.util.Map;
import java.util.Set;
import java.util.TreeMap;
import java.util.TreeSet;
import java.util.regex.Matcher;
import java.util.regex.Pattern;

/** The class keeps to those rules of ../shared/LANGUAGE.md that can be seen in it or in its text. */
public final class RulesTest {
    private static final String[] BANNED = {
        "\\bthrows?\\b", "\\btry\\b", "\\bcatch\\b", "\\bsynchronized\\b", "\\bassert\\b",
        "\\bimport\\b", "\\bpackage\\b", "->", "::", "\\bprotected\\b", "\\bObject\\b",
        "\\bhashCode\\b", "\\btoString\\b", "\\bequals\\b", "\\bvar\\b", "\\bstatic \\{",
        "\\bwhile \\(true\\)", "for \\(;;\\)", "Exact\\(", "\\bException\\b", "\\w+Exception\\b"};

    public static void main(String[] args) throws Exception {
        String source = Files.readString(Path.of("src/main/java/ShornHill.java"));
        String code = source.replaceAll("(?s)/\\*.*?\\*/", "").replaceAll("//[^\n]*", "");
        for (String banned : BANNED) {
            Checks.due(banned, Pattern.compile(banned).matcher(code).find() ? 1 : 0, 0);
        }
        for (int k = 0; k < source.length(); k++) {
            char sign = source.charAt(k);
            Checks.due("a sign at " + k, sign < 127 && (sign >= 32 || sign == '\n') ? 1 : 0, 1);
        }
        methodsAreShort(code);
        libraryIsAsListed(code);
        onlyConstructorsMake(code);
        callsAreNotDeep(code);
        classes();
        Checks.end();
    }

    /** Rules 1, 2, 5 and 11: the classes inside, their members and what they hold. */
    private static void classes() {
        Class<?>[] inside = ShornHill.class.getDeclaredClasses();
        Checks.due("classes are at most twelve", inside.length < 12 ? 1 : 0, 1);
        Set<String> face = new TreeSet<>();
        for (Method m : ShornHill.class.getMethods()) {
            face.add(m.getName());
        }
        fields(ShornHill.class);
        for (Class<?> one : inside) {
            int shown = Modifier.PUBLIC | Modifier.PROTECTED;
            Checks.due(one + " is hidden", one.getModifiers() & shown, 0);
            Checks.due(one + " is static", one.getModifiers() & Modifier.STATIC, Modifier.STATIC);
            Checks.due(one + " has no class inside", one.getDeclaredClasses().length, 0);
            fields(one);
            for (Method m : one.getDeclaredMethods()) {
                Checks.due(m + " bears a name of the face", face.contains(m.getName()) ? 1 : 0, 0);
            }
        }
    }

    private static void fields(Class<?> one) {
        List<Class<?>> constants = List.of(int.class, long.class, boolean.class, char.class,
            String.class, int[].class, long[].class, char[].class, byte[].class);
        int held = 0;
        for (Field f : one.getDeclaredFields()) {
            boolean isStatic = Modifier.isStatic(f.getModifiers());
            held += isStatic ? 0 : 1;
            boolean isConstant = Modifier.isFinal(f.getModifiers()) && constants.contains(f.getType());
            Checks.due(f + " is a constant", isStatic && !isConstant ? 1 : 0, 0);
        }
        Checks.due(one + " has at most twenty fields", held <= 20 ? 1 : 0, 1);
    }

    /** Rule 4: of the library, no more than these are used now; each of them is on its list. */
    private static void libraryIsAsListed(String code) {
        Set<String> listed = Set.of("Integer.bitCount", "Math.max", "Math.min", "System.arraycopy");
        Matcher m = Pattern.compile("\\b[A-Z]\\w*\\.[a-z]\\w*(?=\\()").matcher(code);
        while (m.find()) {
            Checks.due(m.group() + " is listed", listed.contains(m.group()) ? 1 : 0, 1);
        }
    }

    /** Rule 12: rows are made with the object; no call makes one. */
    private static void onlyConstructorsMake(String code) {
        for (String line : code.split("\n")) {
            boolean isField = line.matches(" +private final [^(]*= new .*;");
            boolean isSheet = line.trim().equals("sheets[k] = new Sheet();");
            boolean makes = line.matches(".*\\bnew\\b.*");
            Checks.due("made by a call: " + line.trim(), makes && !isField && !isSheet ? 1 : 0, 0);
        }
    }

    /** Rules 8 and 11: none but these two call themselves; the others go at most eight deep. */
    private static void callsAreNotDeep(String code) {
        Map<String, String> bodies = new TreeMap<>();
        Pattern head = Pattern.compile("\n( {4}| {8})(?:public|private)[^;{=(]*?(\\w+)\\([^)]*\\) \\{\n");
        Matcher m = head.matcher(code);
        while (m.find()) {
            int end = code.indexOf("\n" + m.group(1) + "}", m.end());
            String other = bodies.put(m.group(2), code.substring(m.end(), end));
            Checks.due(m.group(2) + " is the name of one method", other == null ? 1 : 0, 1);
        }
        Set<String> recursive = Set.of("shear", "oddsOn");
        for (String name : bodies.keySet()) {
            boolean calls = bodies.get(name).matches("(?s).*\\b" + name + "\\(.*");
            Checks.due(name + " calls itself", calls ? 1 : 0, recursive.contains(name) ? 1 : 0);
            Checks.due(name + " is at most eight deep", deep(bodies, name, 1) <= 8 ? 1 : 0, 1);
        }
    }

    /** How deep the calls go; methods that call one another would go beyond every bound. */
    private static int deep(Map<String, String> bodies, String name, int level) {
        if (level > 20) {
            return level;
        }
        int deepest = level;
        Matcher called = Pattern.compile("\\b(\\w+)\\(").matcher(bodies.get(name));
        while (called.find()) {
            String next = called.group(1);
            if (bodies.containsKey(next) && !next.equals(name)) {
                deepest = Math.max(deepest, deep(bodies, next, level + 1));
            } else if (List.of("bitCount", "max", "min", "arraycopy").contains(next)) {
                deepest = Math.max(deepest, level + 1);
            }
        }
        return deepest;
    }

    private static void methodsAreShort(String code) {
        Pattern head = Pattern.compile("\n( {4}| {8})(public|private)[^;{=]*\\(([^)]*)\\) \\{\n");
        Matcher m = head.matcher(code);
        int count = 0;
        while (m.find()) {
            count++;
            int end = code.indexOf("\n" + m.group(1) + "}", m.end());
            long lines = code.substring(m.end(), end).lines().count();
            Checks.due(m.group().trim() + " is short", lines <= 60 ? 1 : 0, 1);
            Checks.due(m.group().trim() + " parameters", m.group(3).split(",").length <= 7 ? 1 : 0, 1);
        }
        Checks.due("methods are found", count > 40 ? 1 : 0, 1);
    }
}
