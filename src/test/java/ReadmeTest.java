import java.io.IOException;
import java.lang.reflect.Constructor;
import java.lang.reflect.Method;
import java.lang.reflect.Modifier;
import java.lang.reflect.Parameter;
import java.nio.file.Files;
import java.nio.file.Path;
import java.util.ArrayList;
import java.util.List;
import java.util.regex.Matcher;
import java.util.regex.Pattern;

/** README.md tells each call of the face with what it is refused for, and its example answers what it says. */
public final class ReadmeTest {
    private static final Check CHECK = new Check();

    /** A call, and the answers of its refusals in the document's order; none where it is refused for nothing. */
    private static final String[][] CALLS = {
        {"WordEvidence(int classes)"},
        {"boolean key(char c)", "false:"},
        {"int clear()"},
        {"int words()"},
        {"int letter(int k, int i)", "`NONE`:"},
        {"int train(int id, int label)", "`NONE`:", "`PRESENT`:", "`MANY`:", "`FULL`:"},
        {"int untrain(int id)", "`NONE`:", "`ABSENT`:", "`FULL`:"},
        {"int sync()"},
        {"int fail(int blocks)"},
        {"int pending()"},
        {"int documents(int c)", "`NONE`:"},
        {"int total(int c)", "`NONE`:"},
        {"int count(int c, int k)", "`NONE`:"},
        {"int vocabulary()"},
        {"int label(int id)", "`NONE`:"},
        {"int classify()", "`NONE`:"},
        {"int order(int k)", "`NONE`:"},
        {"int compare(int a, int b)", "-2:"},
    };

    private static final Pattern MAKES = Pattern.compile("WordEvidence evidence = new WordEvidence\\((\\d)\\);.*");
    private static final Pattern TYPES =
            Pattern.compile("for \\(char c : \"(.*)\"\\.toCharArray\\(\\)\\) evidence\\.key\\(c\\);");
    private static final Pattern ASKS = Pattern.compile("evidence\\.(\\w+)\\(([-0-9, ]*)\\); +// (-?\\d+)\\b.*");

    private final List<String> lines;
    private WordEvidence evidence = new WordEvidence(2);

    private ReadmeTest(List<String> lines) {
        this.lines = lines;
    }

    private void eachCallHasARow() {
        for (String[] call : CALLS) {
            List<String> rows = lines.stream().filter(line -> line.startsWith("| `" + call[0] + "` |")).toList();
            CHECK.due("rows of " + call[0], rows.size(), 1);
            for (String row : rows) {
                dueRefusals(row, call);
            }
        }
    }

    private static void dueRefusals(String row, String[] call) {
        String[] cells = row.split("\\|");
        CHECK.due("cells of the row of " + call[0], cells.length, 4);
        Matcher answer = Pattern.compile("(`[A-Z]+`|false|-2):").matcher(cells[cells.length - 1]);
        List<String> told = new ArrayList<>();
        while (answer.find()) {
            told.add(answer.group());
        }
        CHECK.due("refusals of " + call[0], told.toString(), List.of(call).subList(1, call.length).toString());
        if (call.length == 1) {
            CHECK.due("refusals of " + call[0], cells[cells.length - 1].trim(), "nothing");
        }
    }

    /** A call of the class that is not among the ones above would need no row. */
    private void eachCallOfTheFaceIsLookedFor() {
        List<String> face = new ArrayList<>();
        for (Constructor<?> made : WordEvidence.class.getConstructors()) {
            face.add(made.getName() + types(made.getParameters()));
        }
        for (Method method : WordEvidence.class.getDeclaredMethods()) {
            if (Modifier.isPublic(method.getModifiers())) {
                face.add(method.getReturnType() + " " + method.getName() + types(method.getParameters()));
            }
        }
        List<String> looked = new ArrayList<>();
        for (String[] call : CALLS) {
            looked.add(call[0].replaceAll("(int|char) \\w+([,)])", "$1$2"));
        }
        face.sort(null);
        looked.sort(null);
        CHECK.due("the calls that are looked for", looked.toString(), face.toString());
    }

    private static String types(Parameter[] parameters) {
        List<String> names = new ArrayList<>();
        for (Parameter parameter : parameters) {
            names.add(parameter.getType().getName());
        }
        return "(" + String.join(", ", names) + ")";
    }

    private void theConstantsAreTold() {
        String told = "The constants: `NONE` is -1, `PRESENT` -2, `ABSENT` -3, `MANY` -4, `FULL` -5.";
        CHECK.due("the line of the constants stands there", lines.contains(told), true);
    }

    private void theExampleAnswersWhatItSays() {
        int first = lines.indexOf("```java") + 1;
        CHECK.due("an example stands there", first > 0, true);
        int asked = 0;
        for (int i = first; i > 0 && i < lines.size() && !lines.get(i).equals("```"); i++) {
            asked += followExample(lines.get(i));
        }
        CHECK.due("the example tells answers", asked > 0, true);
    }

    /** Answers how many answers the line tells. */
    private int followExample(String line) {
        Matcher makes = MAKES.matcher(line);
        Matcher types = TYPES.matcher(line);
        Matcher asks = ASKS.matcher(line);
        if (makes.matches()) {
            evidence = new WordEvidence(Integer.parseInt(makes.group(1)));
        } else if (types.matches()) {
            for (char c : types.group(1).toCharArray()) {
                CHECK.due(line, evidence.key(c), true);
            }
        } else if (asks.matches()) {
            CHECK.due(line, ask(asks.group(1), asks.group(2)), Integer.parseInt(asks.group(3)));
            return 1;
        } else {
            CHECK.due("the test can follow " + line, false, true);
        }
        return 0;
    }

    private int ask(String name, String numbers) {
        String[] given = numbers.isEmpty() ? new String[0] : numbers.split(", *");
        Class<?>[] types = new Class<?>[given.length];
        Object[] values = new Object[given.length];
        for (int i = 0; i < given.length; i++) {
            types[i] = int.class;
            values[i] = Integer.valueOf(given[i]);
        }
        try {
            return (Integer) WordEvidence.class.getMethod(name, types).invoke(evidence, values);
        } catch (ReflectiveOperationException thrown) {
            throw new IllegalStateException(thrown);
        }
    }

    public static void main(String[] args) throws IOException {
        ReadmeTest test = new ReadmeTest(Files.readAllLines(Path.of("README.md")));
        CHECK.test("README.md, each call", test::eachCallHasARow);
        CHECK.test("README.md, no call is forgotten", test::eachCallOfTheFaceIsLookedFor);
        CHECK.test("README.md, the constants", test::theConstantsAreTold);
        CHECK.test("README.md, the example", test::theExampleAnswersWhatItSays);
        CHECK.end();
    }
}
