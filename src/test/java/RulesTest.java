import java.nio.file.Files;
import java.nio.file.Path;
import java.util.regex.Matcher;
import java.util.regex.Pattern;

/** The source keeps to those rules of ../shared/LANGUAGE.md that can be seen in its text. */
public final class RulesTest {
    private static final String[] BANNED = {
        "\\bthrows?\\b", "\\btry\\b", "\\bcatch\\b", "\\bsynchronized\\b", "\\bassert\\b",
        "\\bimport\\b", "\\bpackage\\b", "->", "::", "\\bprotected\\b", "\\bObject\\b",
        "\\bhashCode\\b", "\\btoString\\b", "\\bequals\\b", "\\bvar\\b", "\\bstatic \\{",
        "\\bwhile \\(true\\)", "for \\(;;\\)", "Exact\\(", "\\bException\\b", "\\w+Exception\\b"};

    public static void main(String[] args) throws Exception {
        String source = Files.readString(Path.of("src/main/java/ShornHill.java"));
        String code = source.replaceAll("(?s)/\\*.*?\\*/", "").replaceAll("//[^\n]*", "");
        for (String banned : BANNED) {
            Checks.due(banned, Pattern.compile(banned).matcher(code).find() ? 1 : 0, 0);
        }
        for (int k = 0; k < source.length(); k++) {
            char sign = source.charAt(k);
            Checks.due("a sign at " + k, sign < 127 && (sign >= 32 || sign == '\n') ? 1 : 0, 1);
        }
        methodsAreShort(code);
        Checks.end();
    }

    private static void methodsAreShort(String code) {
        Pattern head = Pattern.compile("\n( {4}| {8})(public|private)[^;{=]*\\(([^)]*)\\) \\{\n");
        Matcher m = head.matcher(code);
        int count = 0;
        while (m.find()) {
            count++;
            int end = code.indexOf("\n" + m.group(1) + "}", m.end());
            long lines = code.substring(m.end(), end).lines().count();
            Checks.due(m.group().trim() + " is short", lines <= 60 ? 1 : 0, 1);
            Checks.due(m.group().trim() + " parameters", m.group(3).split(",").length <= 7 ? 1 : 0, 1);
        }
        Checks.due("methods are found", count > 40 ? 1 : 0, 1);
    }
}
