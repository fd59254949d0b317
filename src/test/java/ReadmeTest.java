import java.io.IOException;
import java.lang.reflect.Method;
import java.lang.reflect.Modifier;
import java.net.URL;
import java.net.URLClassLoader;
import java.nio.file.DirectoryStream;
import java.nio.file.Files;
import java.nio.file.Path;
import java.util.Set;
import java.util.TreeSet;
import java.util.regex.Matcher;
import java.util.regex.Pattern;
import javax.tools.ToolProvider;

/** What README.md says of the class and of its tests is so. It is run from the project's folder. */
final class ReadmeTest {
    private static final Check check = new Check();

    public static void main(String[] args) throws IOException, ReflectiveOperationException {
        String text = Files.readString(Path.of("README.md"));
        theExampleAnswersSeven(text);
        everyCallIsNamedWithItsParameters(text);
        theTestsNamedAreThoseThatAreThere(text);
        check.end();
    }

    private static void theExampleAnswersSeven(String text) throws IOException, ReflectiveOperationException {
        Matcher block = Pattern.compile("```java\n(.*?)```", Pattern.DOTALL).matcher(text);
        check.yes("there is an example", block.find());
        String source = "public final class Example { public static int seven() {\n" + block.group(1) + "return seven; } }";
        Path folder = Files.createTempDirectory("example");
        Path file = folder.resolve("Example.java");
        Files.writeString(file, source);
        int code = ToolProvider.getSystemJavaCompiler().run(null, null, null,
            "-cp", System.getProperty("java.class.path"), "-d", folder.toString(), file.toString());
        check.due("the example compiles", code, 0);
        if (code == 0) {
            try (URLClassLoader loader = new URLClassLoader(new URL[] {folder.toUri().toURL()})) {
                check.due("seven", (int) loader.loadClass("Example").getMethod("seven").invoke(null), 7);
            }
        }
        Files.deleteIfExists(folder.resolve("Example.class"));
        Files.delete(file);
        Files.delete(folder);
    }

    private static void everyCallIsNamedWithItsParameters(String text) {
        int named = 0;
        for (Method method : EndorsedLedger.class.getDeclaredMethods()) {
            if (Modifier.isPublic(method.getModifiers())) {
                String parameters = "\\w+" + ", \\w+".repeat(method.getParameterCount() - 1);
                Pattern row = Pattern.compile("\\| `" + method.getName() + "\\(" + parameters + "\\)` \\|");
                check.yes(method.getName() + " has a row", row.matcher(text).find());
                named++;
            }
        }
        check.due("calls", named, Call.NAMES.size());
    }

    private static void theTestsNamedAreThoseThatAreThere(String text) throws IOException {
        Set<String> named = new TreeSet<>();
        Matcher row = Pattern.compile("(?m)^\\| (\\w+Test) \\|").matcher(text);
        while (row.find()) {
            named.add(row.group(1));
        }
        Set<String> there = new TreeSet<>();
        try (DirectoryStream<Path> files = Files.newDirectoryStream(Path.of("src/test/java"), "*Test.java")) {
            for (Path file : files) {
                there.add(file.getFileName().toString().replace(".java", ""));
            }
        }
        check.yes("tests named " + named + ", there are " + there, named.equals(there));
    }
}
