import java.io.IOException;
import java.lang.reflect.Field;
import java.lang.reflect.Modifier;
import java.nio.charset.StandardCharsets;
import java.nio.file.Files;
import java.nio.file.Path;
import java.util.regex.Matcher;
import java.util.regex.Pattern;

/** Rules of ../shared/LANGUAGE.md that can be seen in the text of the class, whose path is the argument. */
public final class LanguageTest {
    private static final String[] FORBIDDEN = {"import", "package", "try", "catch", "finally", "throw", "throws",
        "synchronized", "assert", "protected", "volatile", "transient", "native", "var", "Object", "Float", "Double",
        "System", "Thread", "hashCode", "equals", "toString", "yield", "sealed", "permits"};
    private static final String[] FORBIDDEN_SIGNS = {"->", "::", "...", "@", "static {", "[][]", "\""};
    private static final Pattern METHOD = Pattern.compile(
            "^( {4}| {8})(?:public |private |static )*(?:int|boolean|char|void) (\\w+)\\((.*)\\) \\{$");
    private static final Pattern LIBRARY = Pattern.compile("\\b(Math|Integer|Long|String|Arrays)\\b(\\.\\w+)?");

    private LanguageTest() {
    }

    public static void main(String[] args) throws IOException {
        Path path = Path.of(args.length > 0 ? args[0] : "src/main/java/CupReceipts.java");
        String source = Files.readString(path, StandardCharsets.US_ASCII);
        String code = source.replaceAll("(?s)/\\*.*?\\*/", "").replaceAll("//.*", "");
        noForbiddenWords(code);
        onlyTheLibraryThatIsUsed(code);
        everyLoopHasABound(code);
        methodsAreShort(source.split("\n"));
        classesAreFewAndSmall();
        Check.end("LanguageTest");
    }

    private static void noForbiddenWords(String code) {
        for (String word : FORBIDDEN) {
            Check.isTrue("without " + word, !Pattern.compile("\\b" + word + "\\b").matcher(code).find());
        }
        for (String signs : FORBIDDEN_SIGNS) {
            Check.isTrue("without " + signs, !code.contains(signs));
        }
    }

    private static void onlyTheLibraryThatIsUsed(String code) {
        Matcher used = LIBRARY.matcher(code);
        while (used.find()) {
            String call = used.group();
            Check.isTrue(call + " is allowed", call.equals("Math.min") || call.equals("Math.max")
                    || call.equals("Math.floorMod"));
        }
        Matcher made = Pattern.compile("new (\\w+)").matcher(code);
        while (made.find()) {
            Check.isTrue("new " + made.group(1), made.group(1).matches("int|boolean|char|Lots|Contracts|House|Delivery"
                    + "|History|Orders"));
        }
    }

    private static void methodsAreShort(String[] lines) {
        int methods = 0;
        for (int line = 0; line < lines.length; line++) {
            Matcher method = METHOD.matcher(lines[line]);
            if (method.matches()) {
                methods++;
                int end = line;
                while (!lines[end].equals(method.group(1) + "}")) {
                    end++;
                }
                Check.isTrue(method.group(2) + " is short", end - line < 60);
                Check.isTrue(method.group(2) + " takes few", method.group(3).split(",").length <= 7);
            }
        }
        Check.isTrue("methods are found", methods > 60);
    }

    private static void everyLoopHasABound(String code) {
        Check.isTrue("without while (true)", !Pattern.compile("while \\(true").matcher(code).find());
        Matcher loop = Pattern.compile("\\bfor \\((.*)\\) \\{").matcher(code);
        int loops = 0;
        while (loop.find()) {
            Check.isTrue("for (" + loop.group(1) + ") counts against a bound",
                    loop.group(1).matches("int (\\w+) = [\\w +]+; \\1 < .+; \\1\\+\\+"));
            loops++;
        }
        Check.isTrue("loops are found", loops > 10);
    }

    private static void classesAreFewAndSmall() {
        Class<?>[] inside = CupReceipts.class.getDeclaredClasses();
        Check.isTrue("twelve classes at most", inside.length + 1 <= 12);
        fieldsAreAllowed(CupReceipts.class);
        for (Class<?> one : inside) {
            Check.equal("no classes in " + one, one.getDeclaredClasses().length, 0);
            fieldsAreAllowed(one);
        }
    }

    private static void fieldsAreAllowed(Class<?> where) {
        int ofAnObject = 0;
        for (Field field : where.getDeclaredFields()) {
            boolean ofTheClass = Modifier.isStatic(field.getModifiers());
            Check.isTrue(field + " is final", !ofTheClass || Modifier.isFinal(field.getModifiers()));
            Class<?> type = field.getType().isArray() ? field.getType().getComponentType() : field.getType();
            Check.isTrue(field + " has a type of the language", type == int.class
                    || !ofTheClass && (type == boolean.class || type == char.class
                    || type.getDeclaringClass() == CupReceipts.class));
            ofAnObject += ofTheClass ? 0 : 1;
        }
        Check.isTrue("twenty fields at most in " + where, ofAnObject <= 20);
    }
}
