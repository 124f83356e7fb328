import java.io.IOException;
import java.lang.reflect.Method;
import java.lang.reflect.Modifier;
import java.nio.file.Files;
import java.nio.file.Path;
import java.util.List;

/** README.md tells the truth: its example answers as it says, and it names every call. */
public final class ReadmeTest {
    private final Checks checks = new Checks();
    private final List<String> readme;
    private int linesShown;

    private ReadmeTest(List<String> readme) {
        this.readme = readme;
    }

    public static void main(String[] args) throws IOException {
        ReadmeTest test = new ReadmeTest(Files.readAllLines(Path.of("README.md")));
        test.example();
        test.everyCall();
        test.checks.end("ReadmeTest");
    }

    private void example() {
        GoatTower tower = new GoatTower();
        int gate = shown("int gate = tower.addGate(2, 1);", null, tower.addGate(2, 1));
        int kid = shown("int kid = tower.addGoat(1);", null, tower.addGoat(1));
        int old = shown("int old = tower.addGoat(9);", null, tower.addGoat(9));
        shown("tower.ask(kid, gate, 1, 5, 20);", "1", tower.ask(kid, gate, 1, 5, 20));
        shown("tower.ask(old, gate, 2, 5, 20);", "2", tower.ask(old, gate, 2, 5, 20));
        shown("tower.nextAt(gate);", "1", tower.nextAt(gate));
        shown("tower.minutesUntilIn(kid);", "6", tower.minutesUntilIn(kid));
        shown("tower.pass(1);", "1", tower.pass(1));
        shown("tower.freeOf(gate);", "0", tower.freeOf(gate));
        shown("tower.permitsWanted(gate);", "0", tower.permitsWanted(gate));
        shown("tower.callBack(old);", "2", tower.callBack(old));
        shown("tower.barge(old, gate, 1, 3);", "1", tower.barge(old, gate, 1, 3));
        shownText("tower.meanWaited();", "0.5", Double.toString(tower.meanWaited()));
        // One line more makes the tower; a line that is not tried here would go unseen.
        checks.same("lines of the example that call the tower", linesOfExample(), linesShown + 1);
    }

    private int shown(String code, String told, int answer) {
        shownText(code, told, Integer.toString(answer));
        return answer;
    }

    /** Told is what stands behind the code as its answer, null if nothing does. */
    private void shownText(String code, String told, String answer) {
        linesShown++;
        String line = lineThatStartsWith(code);
        checks.isTrue("README.md has the line " + code, line != null);
        if (line != null && told != null) {
            checks.isTrue("the answer " + told + " stands behind " + code, line.contains("// " + told + ": "));
            checks.same(code, answer, told);
        }
    }

    private String lineThatStartsWith(String code) {
        for (String line : readme) {
            if (line.startsWith(code)) {
                return line;
            }
        }
        return null;
    }

    private int linesOfExample() {
        int count = 0;
        for (String line : readme) {
            if (line.matches("(GoatTower|int|tower)\\b.*;.*")) {
                count++;
            }
        }
        return count;
    }

    private void everyCall() {
        for (Method m : GoatTower.class.getDeclaredMethods()) {
            if (Modifier.isPublic(m.getModifiers())) {
                checks.isTrue("README.md's table names " + m.getName(), isInTable("`" + m.getName() + "("));
            }
        }
    }

    private boolean isInTable(String call) {
        for (String line : readme) {
            if (line.startsWith("|") && line.contains(call)) {
                return true;
            }
        }
        return false;
    }
}
