import java.io.IOException;
import java.lang.reflect.Method;
import java.lang.reflect.Modifier;
import java.nio.file.Files;
import java.nio.file.Path;
import java.util.ArrayList;
import java.util.List;

/** README.md (in the directory in which the tests are run): its example and its tables hold. */
public final class ReadmeTest {
    private static final String FENCE = "```";

    public static void main(String[] args) throws IOException {
        List<String> lines = Files.readAllLines(Path.of("README.md"));
        exampleAnswersAsItSays(lines);
        tablesNameEachCall(lines);
        Checks.end();
    }

    /** The example, done here; each of its lines must begin its comment with the answer. */
    private static void exampleAnswersAsItSays(List<String> lines) {
        List<String> example = example(lines);
        LockBank canal = new LockBank();
        dueLine(example, 0, "LockBank canal = new LockBank();", "");
        int barge = canal.barge(5, 0, 9);
        dueLine(example, 1, "int barge = canal.barge(5, 0, 9);", barge);
        dueLine(example, 2, "canal.setMill(3, 40);", canal.setMill(3, 40));
        dueLine(example, 3, "canal.arrives(barge);", canal.arrives(barge));
        dueLine(example, 4, "canal.pass(2);", canal.pass(2));
        dueLine(example, 5, "canal.told(barge, 0);", canal.told(barge, 0));
        dueLine(example, 6, "canal.told(barge, 4);", canal.told(barge, 4));
        dueLine(example, 7, "canal.foresee(3, 2);", canal.foresee(3, 2));
        dueLine(example, 8, "canal.advise(10);", canal.advise(10));
        Checks.due("lines of the example", example.size(), 9);
    }

    /** The lines of the first block of Java. */
    private static List<String> example(List<String> lines) {
        List<String> found = new ArrayList<>();
        int i = lines.indexOf(FENCE + "java") + 1;
        while (i < lines.size() && !lines.get(i).equals(FENCE)) {
            found.add(lines.get(i));
            i++;
        }
        return found;
    }

    private static void dueLine(List<String> example, int at, String call, int answer) {
        dueLine(example, at, call, "// " + answer + ":");
    }

    private static void dueLine(List<String> example, int at, String call, String comment) {
        String line = at < example.size() ? example.get(at) : "";
        boolean there = line.startsWith(call) && line.substring(call.length()).trim().startsWith(comment);
        Checks.due("README.md has in its example: " + call + " " + comment, there, true);
    }

    private static void tablesNameEachCall(List<String> lines) {
        for (Method m : LockBank.class.getDeclaredMethods()) {
            if (Modifier.isPublic(m.getModifiers())) {
                String row = "| `" + m.getName() + "(";
                long rows = lines.stream().filter(line -> line.startsWith(row)).count();
                Checks.due("rows of README.md on " + m.getName(), rows, 1);
            }
        }
    }
}
