import java.io.IOException;
import java.lang.reflect.Array;
import java.lang.reflect.Field;
import java.lang.reflect.Modifier;
import java.nio.file.Files;
import java.nio.file.Path;
import java.util.ArrayDeque;
import java.util.Collections;
import java.util.Deque;
import java.util.IdentityHashMap;
import java.util.List;
import java.util.Set;
import java.util.regex.Matcher;
import java.util.regex.Pattern;

/**
 * Rules of LANGUAGE.md that the source shows, in the narrow form in which the program keeps them, and the room that
 * an object takes. It is run from the project's folder.
 */
final class LanguageTest {
    private static final List<String> WORDS_LEFT_OUT = List.of(
        "import", "package", "try", "catch", "throw", "throws", "finally", "synchronized", "assert", "volatile",
        "transient", "native", "while", "do", "float", "double", "Object", "var");
    private static final Set<String> LIBRARY = Set.of("Math.min", "Math.max", "System.arraycopy");
    private static final int MOST_LINES = 60;
    private static final int MOST_OBJECTS = 600;
    private static final int MOST_CELLS = 10_000;
    private static final Check check = new Check();

    public static void main(String[] args) throws IOException, IllegalAccessException {
        String source = Files.readString(Path.of("src/main/java/EndorsedLedger.java"));
        String code = source.replaceAll("(?s)/\\*.*?\\*/", "").replaceAll("//.*", "");
        noWordThatIsLeftOut(code);
        noLibraryButThis(code);
        objectsAreMadeByConstructorsAlone(code);
        everyLoopCounts(code);
        methodsAreShort(code);
        anObjectTakesLittleRoom();
        check.end();
    }

    /** Rules 2, 4, 6, 9: no lambda, no exception, no other loop than one that counts. */
    private static void noWordThatIsLeftOut(String code) {
        for (String word : WORDS_LEFT_OUT) {
            check.no("the word " + word, Pattern.compile("\\b" + word + "\\b").matcher(code).find());
        }
        check.no("a lambda", code.contains("->"));
        check.no("a method reference", code.contains("::"));
        check.no("a text", code.contains("\""));
    }

    /** Rule 4: what stands in front of a dot with a capital is the library or a class of the program's own. */
    private static void noLibraryButThis(String code) {
        Matcher use = Pattern.compile("\\b([A-Z]\\w*)\\.(\\w+)").matcher(code);
        while (use.find()) {
            boolean isOwn = Pattern.compile("\\bclass " + use.group(1) + "\\b").matcher(code).find();
            check.yes(use.group(), isOwn || LIBRARY.contains(use.group()));
        }
    }

    /** Rule 12, and the room that all calls share: no call makes an object. */
    private static void objectsAreMadeByConstructorsAlone(String code) {
        Pattern field = Pattern.compile("private final \\S+ \\w+ = new .*;");
        Pattern element = Pattern.compile("\\w+\\[i\\] = new \\w+\\(\\);");
        int start = code.indexOf("public EndorsedLedger() {");
        String constructor = code.substring(start, code.indexOf("\n    }", start));
        for (String line : code.split("\n")) {
            if (Pattern.compile("\\bnew\\b").matcher(line).find()) {
                String row = line.strip();
                boolean isInConstructor = element.matcher(row).matches() && constructor.contains(row);
                check.yes(row, field.matcher(row).matches() || isInConstructor);
            }
        }
    }

    /** Rule 9: each loop goes one up or one down, and has its end in its own line. */
    private static void everyLoopCounts(String code) {
        Pattern counting = Pattern.compile("for \\(int (\\w+) = [^;]+; \\1 (<|<=|>) [^;]+; \\1(\\+\\+|--)\\) \\{");
        Matcher loop = Pattern.compile("\\bfor \\(.*").matcher(code);
        while (loop.find()) {
            check.yes(loop.group(), counting.matcher(loop.group()).matches());
        }
    }

    /** Rule 11. */
    private static void methodsAreShort(String code) {
        Matcher method = Pattern.compile("(?m)^( {4}| {8})(public|private) [^=;]*\\) \\{$").matcher(code);
        int methods = 0;
        while (method.find()) {
            int end = code.indexOf("\n" + method.group(1) + "}", method.start());
            long lines = code.substring(method.start(), end).lines().count() + 1;
            check.yes(method.group().strip() + " has " + lines + " lines", lines <= MOST_LINES);
            methods++;
        }
        check.yes("methods were found", methods > 50);
    }

    private static void anObjectTakesLittleRoom() throws IllegalAccessException {
        EndorsedLedger ledger = new EndorsedLedger();
        int[] fresh = room(ledger);
        check.yes(fresh[0] + " objects", fresh[0] <= MOST_OBJECTS);
        check.yes(fresh[1] + " fields and elements", fresh[1] <= MOST_CELLS);
        RandomCalls calls = new RandomCalls(1);
        ModelLedger model = new ModelLedger();
        for (int i = 0; i < 512; i++) {
            Call call = calls.next(model);
            check.due(call.toString(), call.on(ledger), call.on(model));
        }
        int[] used = room(ledger);
        check.due("objects after 512 calls", used[0], fresh[0]);
        check.due("fields and elements after 512 calls", used[1], fresh[1]);
    }

    /** How many objects and arrays hang on one, itself among them, and how many fields and elements they have. */
    private static int[] room(Object root) throws IllegalAccessException {
        Set<Object> seen = Collections.newSetFromMap(new IdentityHashMap<>());
        Deque<Object> open = new ArrayDeque<>();
        open.add(root);
        int cells = 0;
        while (!open.isEmpty()) {
            Object one = open.remove();
            if (seen.add(one)) {
                cells += one.getClass().isArray() ? elements(one, open) : fields(one, open);
            }
        }
        return new int[] {seen.size(), cells};
    }

    private static int elements(Object array, Deque<Object> open) {
        int length = Array.getLength(array);
        if (!array.getClass().getComponentType().isPrimitive()) {
            for (int i = 0; i < length; i++) {
                open.add(Array.get(array, i));
            }
        }
        return length;
    }

    private static int fields(Object one, Deque<Object> open) throws IllegalAccessException {
        int count = 0;
        for (Field field : one.getClass().getDeclaredFields()) {
            if (!Modifier.isStatic(field.getModifiers())) {
                count++;
                if (!field.getType().isPrimitive()) {
                    field.setAccessible(true);
                    open.add(field.get(one));
                }
            }
        }
        return count;
    }
}
