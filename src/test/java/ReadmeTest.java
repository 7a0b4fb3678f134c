import java.io.IOException;
import java.nio.charset.StandardCharsets;
import java.nio.file.Files;
import java.nio.file.Path;
import java.util.HashSet;
import java.util.List;
import java.util.Set;

/** The course that README.md shows, with the answers that it tells. */
public final class ReadmeTest {
    public static void main(String[] args) throws IOException {
        course();
        linesStandHere();
        callsAreListed();
        Check.end();
    }

    private static void course() {
        Courtyard x = new Courtyard();

        int rule = x.enact(1, 0, true, -1);
        x.condition(rule, 'f', 3);
        int exception = x.enact(1, 0, false, rule);
        x.condition(exception, 'f', 4);
        x.act(rule, true, 0);
        x.act(exception, true, 0);

        x.advance(10);
        int number = x.begin(0, 1, 0, 5000, 0, 5);
        x.addEvidence(number, 3, true, 60, 2, -1);
        boolean found = x.isFound(number, 3);
        Check.same("19: found", found, true);
        x.answer(number, 255, false);
        boolean won = x.judge(number);
        Check.same("22: won", won, true);
        int by = x.rowBy(number, 0);
        Check.same("31: by the rule", by, 0);

        int loser = x.appeal(number);
        Check.same("23: the one who lost", loser, 1);
        char decision = x.decide(number);
        Check.same("24: affirmed", decision, 'a');

        x.advance(31);
        int debt = x.debt(number);
        Check.same("36: with interest", debt, 5015);
        x.give(1, 2000);
        int taken = x.enforce(number);
        Check.same("38: taken", taken, 2000);
    }

    /** What the page shows has to be what was tried above. */
    private static void linesStandHere() throws IOException {
        Set<String> here = new HashSet<>();
        for (String line : linesOf("src/test/java/ReadmeTest.java")) {
            here.add(line.strip());
        }
        boolean isCourse = false;
        int shown = 0;
        for (String line : linesOf("README.md")) {
            if (line.startsWith("```")) {
                isCourse = line.equals("```java");
                continue;
            }
            String code = line.replaceAll("//.*", "").strip();
            if (isCourse && !code.isEmpty()) {
                shown++;
                Check.same("tried: " + code, here.contains(code), true);
            }
        }
        Check.same("lines of the course", shown, 20);
    }

    private static void callsAreListed() throws IOException {
        String page = String.join("\n", linesOf("README.md"));
        for (java.lang.reflect.Method method : Courtyard.class.getDeclaredMethods()) {
            if (java.lang.reflect.Modifier.isPublic(method.getModifiers())) {
                Check.same("listed: " + method.getName(), page.contains("`" + method.getName() + "`"), true);
            }
        }
    }

    private static List<String> linesOf(String file) throws IOException {
        return Files.readAllLines(Path.of(file), StandardCharsets.UTF_8);
    }
}
