import java.io.IOException;
import java.lang.reflect.Method;
import java.nio.file.DirectoryStream;
import java.nio.file.Files;
import java.nio.file.Path;
import java.util.Set;
import java.util.TreeSet;
import java.util.regex.Matcher;
import java.util.regex.Pattern;

/** README.md is true of the class: the calls that it shows answer as it says, and its tables name all that there is. */
public final class ReadmeTest {
    private static final String NEW_HOUSE = "CupReceipts house = new CupReceipts();";
    private static final Pattern CALL = Pattern.compile("house\\.(\\w+)\\((.*)\\); +// (-?\\w+)(:.*)?");
    private static final Pattern TYPING =
            Pattern.compile("for \\(char sign : \"(.*)\"\\.toCharArray\\(\\)\\) house\\.type\\(sign\\); // (\\d+)");
    private static final Pattern CONSTANT = Pattern.compile("\\| `([A-Z_]+)` \\| (-\\d+) \\| .+ \\|");
    private static final Pattern PROMISE = Pattern.compile("\\| (\\d+) \\| `(\\w+)\\((.*)\\)` \\| .+ \\|");
    private static final Pattern TEST = Pattern.compile("\\| `(\\w+Test)` \\| .+ \\|");

    private ReadmeTest() {
    }

    public static void main(String[] args) throws IOException {
        String readme = Files.readString(Path.of("README.md"));
        shownCallsAnswerAsTold(readme);
        constantsAreThoseOfTheClass(readme);
        callsStandByTheirPromises(readme, Files.readString(Path.of("../shared/DOC.md")));
        everyTestIsTold(readme);
        Check.end("ReadmeTest");
    }

    private static void shownCallsAnswerAsTold(String readme) {
        Set<String> shown = new TreeSet<>();
        CupReceipts house = new CupReceipts();
        Matcher block = Pattern.compile("(?s)```java\n(.*?)```").matcher(readme);
        while (block.find()) {
            for (String line : block.group(1).split("\n")) {
                if (line.equals(NEW_HOUSE)) {
                    house = new CupReceipts();
                } else {
                    shown.add(runLine(house, line));
                }
            }
        }
        for (Method method : CupReceipts.class.getDeclaredMethods()) {
            if (method.toString().startsWith("public ")) {
                Check.isTrue("README.md shows " + method.getName(), shown.contains(method.getName()));
            }
        }
    }

    /** The name of the call that the line shows. */
    private static String runLine(CupReceipts house, String line) {
        Matcher typing = TYPING.matcher(line);
        if (typing.matches()) {
            int length = 0;
            for (char sign : typing.group(1).toCharArray()) {
                length = house.type(sign);
            }
            Check.equal(line, length, Integer.parseInt(typing.group(2)));
            return "type";
        }
        Matcher call = CALL.matcher(line);
        if (!call.matches()) {
            Check.isTrue("README.md: can't be read: " + line, false);
            return "";
        }
        Check.equal(line, answer(house, call.group(1), call.group(2)), told(call.group(3)));
        return call.group(1);
    }

    private static int answer(CupReceipts house, String name, String arguments) {
        String[] parts = arguments.isEmpty() ? new String[0] : arguments.split(", ");
        Class<?>[] types = new Class<?>[parts.length];
        Object[] values = new Object[parts.length];
        for (int i = 0; i < parts.length; i++) {
            types[i] = int.class;
            values[i] = parts[i].startsWith("'") ? (int) parts[i].charAt(1) : Integer.parseInt(parts[i]);
        }
        try {
            return (Integer) CupReceipts.class.getMethod(name, types).invoke(house, values);
        } catch (ReflectiveOperationException thrown) {
            Check.isTrue("README.md: " + name + "(" + arguments + ") threw " + thrown, false);
            return 0;
        }
    }

    private static int told(String answer) {
        return answer.matches("-?\\d+") ? Integer.parseInt(answer) : constant(answer);
    }

    private static int constant(String name) {
        try {
            return CupReceipts.class.getField(name).getInt(null);
        } catch (ReflectiveOperationException thrown) {
            Check.isTrue("README.md: there is no constant " + name, false);
            return 0;
        }
    }

    private static void constantsAreThoseOfTheClass(String readme) {
        Matcher row = CONSTANT.matcher(readme);
        int rows = 0;
        while (row.find()) {
            Check.equal(row.group(1), Integer.parseInt(row.group(2)), constant(row.group(1)));
            rows++;
        }
        Check.equal("constants in README.md", rows, CupReceipts.class.getFields().length);
    }

    private static void callsStandByTheirPromises(String readme, String doc) {
        StringBuilder due = new StringBuilder();
        Matcher promise = Pattern.compile("(?m)^## Promise (\\d+): .*\n\n`(?:int )?(\\w+)\\((.*)\\)`").matcher(doc);
        while (promise.find()) {
            due.append(row(promise.group(1), promise.group(2), promise.group(3).replace("int ", "")));
        }
        StringBuilder told = new StringBuilder();
        Matcher row = PROMISE.matcher(readme);
        while (row.find()) {
            told.append(row(row.group(1), row.group(2), row.group(3)));
        }
        Check.isTrue("25 promises", due.toString().contains("\n25 "));
        Check.isTrue("README.md tells" + told + "\nthe document" + due, told.toString().equals(due.toString()));
    }

    private static String row(String promise, String name, String arguments) {
        return "\n" + promise + " " + name + "(" + arguments + ")";
    }

    private static void everyTestIsTold(String readme) throws IOException {
        Set<String> told = new TreeSet<>();
        Matcher row = TEST.matcher(readme);
        while (row.find()) {
            told.add(row.group(1));
        }
        Set<String> there = new TreeSet<>();
        try (DirectoryStream<Path> files = Files.newDirectoryStream(Path.of("src/test/java"), "*Test.java")) {
            for (Path file : files) {
                there.add(file.getFileName().toString().replace(".java", ""));
            }
        }
        Check.isTrue("README.md tells of " + told + ", there are " + there, told.equals(there));
    }
}
