import java.io.IOException;
import java.lang.reflect.Method;
import java.lang.reflect.Modifier;
import java.nio.file.Files;
import java.nio.file.Path;
import java.util.ArrayList;
import java.util.List;
import java.util.Set;
import java.util.TreeSet;

/** README.md: its example answers what it says, and its table has every call of the face. Run from the root. */
public final class ReadmeTest {
    private static final Check CHECK = new Check("ReadmeTest");

    public static void main(String[] args) throws IOException {
        List<String> readme = Files.readAllLines(Path.of("README.md"));
        exampleAnswers();
        exampleIsTheOneRun(readme);
        tableHasTheFace(readme);
        CHECK.end();
    }

    private static void exampleAnswers() {
        SlicedCipher cipher = new SlicedCipher();
        cipher.key(0, 0x03020100);
        cipher.key(1, 0x07060504);
        cipher.size(8);
        cipher.ready();
        int roundWord = cipher.round(32, 3);
        CHECK.due("roundWord", roundWord, 1834623241);

        cipher.start(0, 42);
        int four = cipher.put(1, 2, 3, 4);
        CHECK.due("four", four, 4);
        int eight = cipher.put(5, 6, 7, 8);
        CHECK.due("eight", eight, 8);
        int seal = cipher.seal(0);
        CHECK.due("seal", seal, -811568390);
        int blocks = cipher.run(1, false);
        CHECK.due("blocks", blocks, 2);
        int enciphered = cipher.word(0);
        CHECK.due("enciphered", enciphered, -1971584546);
        cipher.run(1, true);
        int plain = cipher.word(0);
        CHECK.due("plain", plain, 1);
        int none = cipher.cut(0);
        CHECK.due("none", none, 0);

        int made = cipher.box(7, 2, false);
        CHECK.due("made", made, 15);
        int source = cipher.box(7, 15, true);
        CHECK.due("source", source, 2);
    }

    // The example stands in two places, so README.md's is held line by line against the one above.
    private static void exampleIsTheOneRun(List<String> readme) throws IOException {
        List<String> told = exampleTold(readme);
        List<String> run = exampleRun(Files.readAllLines(Path.of("src/test/java/ReadmeTest.java")));
        CHECK.due("lines of the example", told.size(), run.size());
        for (int i = 0; i < Math.min(told.size(), run.size()); i++) {
            boolean hasAnswer = run.get(i).contains("//");
            CHECK.dueText("line of the example", hasAnswer ? withAnswer(told.get(i)) : withoutRemark(told.get(i)),
                    run.get(i));
        }
    }

    private static List<String> exampleTold(List<String> readme) {
        List<String> lines = new ArrayList<>();
        boolean within = false;
        for (String line : readme) {
            if (line.startsWith("```")) {
                within = line.equals("```java");
            } else if (within && !line.isBlank()) {
                lines.add(line);
            }
        }
        return lines;
    }

    private static List<String> exampleRun(List<String> source) {
        List<String> lines = new ArrayList<>();
        for (String line : source) {
            String code = line.strip();
            if (code.matches("SlicedCipher cipher = .*|cipher\\..*|int \\w+ = cipher\\..*")) {
                lines.add(code);
            } else if (code.matches("CHECK\\.due\\(\"\\w+\", \\w+, -?\\d+\\);")) {
                String answer = code.replaceAll(".*, (-?\\d+)\\);", "$1");
                lines.set(lines.size() - 1, lines.get(lines.size() - 1) + " // " + answer);
            }
        }
        return lines;
    }

    private static String withAnswer(String line) {
        return line.replaceAll("\\s+// (-?\\d+).*", " // $1");
    }

    private static String withoutRemark(String line) {
        return line.replaceAll("\\s+//.*", "");
    }

    private static void tableHasTheFace(List<String> readme) {
        Set<String> told = new TreeSet<>();
        for (String line : readme) {
            if (line.matches("\\| `.*\\(.*\\)` \\|.*\\|.*\\|")) {
                told.add(callInRow(line));
            }
        }
        Set<String> due = new TreeSet<>(Set.of("SlicedCipher() []"));
        for (Method method : SlicedCipher.class.getDeclaredMethods()) {
            if (Modifier.isPublic(method.getModifiers())) {
                due.add(callOfTheClass(method));
            }
        }
        CHECK.dueText("calls in the table", told.toString(), due.toString());
    }

    private static String callInRow(String row) {
        String[] cells = row.split("\\|");
        String call = cells[1].replace("`", "").strip().replaceAll("(int|boolean) \\w+([,)])", "$1$2");
        List<String> thrown = new ArrayList<>();
        for (String part : cells[3].split("`")) {
            if (part.endsWith("Exception")) {
                thrown.add(part);
            }
        }
        return call + " " + thrown;
    }

    private static String callOfTheClass(Method method) {
        List<String> parameters = new ArrayList<>();
        for (Class<?> type : method.getParameterTypes()) {
            parameters.add(type.getSimpleName());
        }
        List<String> thrown = new ArrayList<>();
        for (Class<?> type : method.getExceptionTypes()) {
            thrown.add(type.getSimpleName());
        }
        return method.getReturnType().getSimpleName() + " " + method.getName()
                + "(" + String.join(", ", parameters) + ") " + thrown;
    }
}
