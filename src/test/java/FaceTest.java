import java.io.IOException;
import java.lang.reflect.Constructor;
import java.lang.reflect.Field;
import java.lang.reflect.Member;
import java.lang.reflect.Method;
import java.lang.reflect.Modifier;
import java.nio.file.Files;
import java.nio.file.Path;
import java.util.Arrays;
import java.util.Set;
import java.util.TreeSet;
import java.util.regex.Matcher;
import java.util.regex.Pattern;

/** The public face: every name, type and value of it, and nothing more that can be reached. */
public final class FaceTest {
    private static final String[] METHODS = {"lot 2", "part 2", "blend 4", "cup 1", "worth 2", "sell 2", "buyBack 2",
        "meet 1", "pass 1", "set 2", "lotOf 2", "numberOf 1", "contractOf 2", "paid 3", "given 3", "would 2", "lift 3",
        "bestMonth 2", "count 1", "undo 0", "type 1", "clearText 0", "fault 1", "play 0"};
    private static final String[] CONSTANTS = {"INVALID_ARGUMENT -2000000001", "NOT_POSSIBLE -2000000002",
        "LIMIT_REACHED -2000000003", "NOT_FOUND -2000000004"};

    private FaceTest() {
    }

    public static void main(String[] args) throws IllegalAccessException, IOException {
        Class<?> face = CupReceipts.class;
        Check.equal("public final", face.getModifiers(), Modifier.PUBLIC | Modifier.FINAL);
        Check.isTrue("methods", methods(face).equals(new TreeSet<>(Arrays.asList(METHODS))));
        Check.isTrue("constants", constants(face).equals(new TreeSet<>(Arrays.asList(CONSTANTS))));
        constructor(face);
        noPrivateMethodHasAPublicName(face);
        for (Class<?> inside : face.getDeclaredClasses()) {
            Check.isTrue(inside + " is private", Modifier.isPrivate(inside.getModifiers()));
            Check.isTrue(inside + " is static", Modifier.isStatic(inside.getModifiers()));
            noPrivateMethodHasAPublicName(inside);
        }
        headingsStandAheadOfTheirCalls(args.length > 0 ? args[0] : "src/main/java/CupReceipts.java");
        Check.end("FaceTest");
    }

    private static Set<String> methods(Class<?> face) {
        Set<String> names = new TreeSet<>();
        for (Method method : face.getDeclaredMethods()) {
            if (!Modifier.isPrivate(method.getModifiers())) {
                Check.equal(method + " is public", method.getModifiers(), Modifier.PUBLIC);
                Check.isTrue(method + " answers an int", method.getReturnType() == int.class);
                for (Class<?> type : method.getParameterTypes()) {
                    Check.isTrue(method + " takes ints", type == int.class);
                }
                names.add(method.getName() + " " + method.getParameterCount());
            }
        }
        return names;
    }

    private static Set<String> constants(Class<?> face) throws IllegalAccessException {
        Set<String> names = new TreeSet<>();
        for (Field field : face.getDeclaredFields()) {
            if (!Modifier.isPrivate(field.getModifiers())) {
                Check.equal(field + " is a constant", field.getModifiers(),
                        Modifier.PUBLIC | Modifier.STATIC | Modifier.FINAL);
                names.add(field.getName() + " " + field.getInt(null));
            }
        }
        return names;
    }

    private static void constructor(Class<?> face) {
        Constructor<?>[] all = face.getDeclaredConstructors();
        Check.equal("constructors", all.length, 1);
        Check.equal("public constructor", ((Member) all[0]).getModifiers(), Modifier.PUBLIC);
        Check.equal("without parameters", all[0].getParameterCount(), 0);
    }

    private static void noPrivateMethodHasAPublicName(Class<?> where) {
        for (Method method : where.getDeclaredMethods()) {
            boolean ofTheFace = where == CupReceipts.class && Modifier.isPublic(method.getModifiers());
            for (String name : METHODS) {
                Check.isTrue(method + " has a name of the face",
                        ofTheFace || !name.startsWith(method.getName() + " "));
            }
        }
    }

    private static void headingsStandAheadOfTheirCalls(String path) throws IOException {
        StringBuilder due = new StringBuilder();
        String doc = Files.readString(Path.of("../shared/DOC.md"));
        Matcher sentence = Pattern.compile("Ahead of the calls (.+) the interface says: (----.+)\\.").matcher(doc);
        while (sentence.find()) {
            due.append(sentence.group(2)).append(": ").append(sentence.group(1).replaceAll("[`,]", "")).append('\n');
        }
        StringBuilder told = new StringBuilder();
        Matcher line = Pattern.compile("(?m)^    // (----.+)$|^    public int (\\w+)\\(")
                .matcher(Files.readString(Path.of(path)));
        while (line.find()) {
            if (line.group(1) == null) {
                told.append(' ').append(line.group(2));
            } else {
                told.append(told.length() == 0 ? "" : "\n").append(line.group(1)).append(':');
            }
        }
        Check.isTrue("five headings", due.toString().split("\n").length == 5);
        Check.isTrue("the class says\n" + told + "\nthe document\n" + due, told.append('\n').toString()
                .equals(due.toString()));
    }
}
