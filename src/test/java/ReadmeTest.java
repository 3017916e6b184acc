import java.io.File;
import java.nio.file.Files;
import java.nio.file.Path;

/** README.md says what is so: its example answers as it tells, and it names every test. */
public final class ReadmeTest {
    private static final String[] LINES = {
        "String text = \"h2313;gso;g#g\"; ", "x.sheet(0, 0, text.length()); ",
        "x.put(0, i, text.charAt(i));", "x.hill(0, 0, 0, text.length());     // 5:",
        "x.coat(2, 2);                       // 8 inches", "x.fleece(9, 3, -1);                 // 5 cells",
        "x.whole(3);                         // 3:"};

    public static void main(String[] args) throws Exception {
        String readme = Files.readString(Path.of("README.md"));
        for (String line : LINES) {
            Checks.due("README.md has: " + line, readme.contains(line) ? 1 : 0, 1);
        }
        ShornHill x = new ShornHill();
        String text = "h2313;gso;g#g";
        Checks.due("sheet", x.sheet(0, 0, text.length()), 1);
        for (int i = 0; i < text.length(); i++) {
            Checks.due("put", x.put(0, i, text.charAt(i)), 1);
        }
        Checks.due("hill", x.hill(0, 0, 0, text.length()), 5);
        Checks.due("coat", x.coat(2, 2), 8);
        Checks.due("fleece", x.fleece(9, 3, -1), 5);
        Checks.due("whole", x.whole(3), 3);
        everyTestIsNamed(readme);
        Checks.end();
    }

    private static void everyTestIsNamed(String readme) {
        String[] files = new File("src/test/java").list();
        int count = 0;
        for (String file : files == null ? new String[0] : files) {
            String name = file.replace(".java", "");
            if (name.endsWith("Test")) {
                count++;
                Checks.due("README.md names " + name, readme.contains("`" + name + "`") ? 1 : 0, 1);
            }
        }
        Checks.due("tests are found", count > 10 ? 1 : 0, 1);
    }
}
