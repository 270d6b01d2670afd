import java.io.IOException;
import java.lang.reflect.Method;
import java.nio.file.DirectoryStream;
import java.nio.file.Files;
import java.nio.file.Path;
import java.util.ArrayList;
import java.util.List;
import java.util.regex.Matcher;
import java.util.regex.Pattern;

/** README.md: its example is run, its calls and refusals are those of the document, its tests those that there are. */
public final class ReadmeTest {
    private static final List<String> REFUSALS = List.of("UNKNOWN", "OUTSIDE", "NOT", "FULL");

    public static void main(String[] args) throws Exception {
        String readme = Files.readString(Path.of("README.md"));
        theExampleIsSo(readme);
        theCallsAreThoseOfTheDocument(readme, Files.readString(Path.of("../shared/DOC.md")));
        theRefusalsAreInOrder(readme);
        theTestsAreListed(readme);
        Check.end();
    }

    // ---- the example

    private static void theExampleIsSo(String readme) throws ReflectiveOperationException {
        Matcher block = Pattern.compile("(?s)```java\n(.*?)```").matcher(readme);
        Check.due("an example", block.find(), true);
        WeWereIn x = new WeWereIn();
        int answers = 0;
        for (String line : block.group(1).split("\n")) {
            Matcher text = Pattern.compile("\"([^\"]*)\"\\.toCharArray\\(\\)\\) x\\.feed\\(letter\\);").matcher(line);
            Matcher call = Pattern.compile("x\\.(\\w+)\\(([^()]*)\\);\\s*// (-?\\w+)(:.*)?").matcher(line);
            if (text.find()) {
                Check.feed(x, text.group(1));
            } else if (call.matches()) {
                Check.due("the example's " + line, answer(x, call.group(1), call.group(2)), number(call.group(3)));
                answers++;
            } else {
                Check.due("a line of the example", line, "WeWereIn x = new WeWereIn();");
            }
        }
        Check.due("the example shows answers", answers > 0, true);
    }

    private static int answer(WeWereIn x, String name, String numbers) throws ReflectiveOperationException {
        List<Object> values = new ArrayList<>();
        List<Class<?>> types = new ArrayList<>();
        for (String number : numbers.isEmpty() ? new String[0] : numbers.split(", ")) {
            values.add(Integer.valueOf(number));
            types.add(int.class);
        }
        Method call = WeWereIn.class.getMethod(name, types.toArray(new Class<?>[0]));
        return (int) call.invoke(x, values.toArray());
    }

    private static int number(String word) throws ReflectiveOperationException {
        return word.matches("-?\\d+") ? Integer.parseInt(word) : WeWereIn.class.getField(word).getInt(null);
    }

    // ---- the tables

    private static void theCallsAreThoseOfTheDocument(String readme, String document) {
        List<String> shown = new ArrayList<>();
        Matcher row = Pattern.compile("(?m)^\\| `(\\w+\\([^)]*\\))` \\|.*\\| ?([^|]*)\\|$").matcher(readme);
        while (row.find()) {
            shown.add(row.group(1) + ": " + row.group(2).trim());
        }
        List<String> promised = new ArrayList<>();
        Matcher promise = Pattern.compile("(?m)^`int (\\w+\\([^)]*\\))`: (.*)$").matcher(document);
        while (promise.find()) {
            String call = promise.group(1).replaceAll("(int|boolean) ", "");
            promised.add(call + ": " + refusalsIn(promise.group(2)));
        }
        Check.due("promised calls", promised.size(), 29);
        Check.due("calls with their refusals", shown, promised);
    }

    private static String refusalsIn(String promise) {
        List<String> found = new ArrayList<>();
        for (String refusal : REFUSALS) {
            if (Pattern.compile("\\b" + refusal + "\\b").matcher(promise).find()) {
                found.add(refusal);
            }
        }
        return String.join(", ", found);
    }

    private static void theRefusalsAreInOrder(String readme) throws ReflectiveOperationException {
        List<String> shown = new ArrayList<>();
        Matcher row = Pattern.compile("(?m)^\\| `([A-Z]+)` \\| (-\\d+) \\|").matcher(readme);
        while (row.find()) {
            shown.add(row.group(1));
            Check.due(row.group(1), number(row.group(2)), number(row.group(1)));
        }
        Check.due("refusals", shown, REFUSALS);
    }

    private static void theTestsAreListed(String readme) throws IOException {
        try (DirectoryStream<Path> tests = Files.newDirectoryStream(Path.of("src/test/java"), "*Test.java")) {
            for (Path test : tests) {
                String name = test.getFileName().toString().replace(".java", "");
                Check.due(name + " is listed", readme.contains("\n| " + name + " | "), true);
            }
        }
    }
}
