import java.io.ByteArrayOutputStream;
import java.io.IOException;
import java.io.PrintStream;
import java.lang.reflect.Field;
import java.lang.reflect.Method;
import java.lang.reflect.Modifier;
import java.nio.charset.StandardCharsets;
import java.nio.file.DirectoryStream;
import java.nio.file.Files;
import java.nio.file.Path;
import java.util.ArrayList;
import java.util.List;
import java.util.regex.Matcher;
import java.util.regex.Pattern;

/** That README.md tells what is so: its example, the calls, the tests and how to run them. */
public final class ReadmeTest {
    private static final Path TESTS = Path.of("src/test/java");

    public static void main(String[] args) throws IOException, IllegalAccessException {
        String readme = Files.readString(Path.of("README.md"));
        example(readme);
        calls(readme);
        constants(readme);
        tests(readme);
        commands(readme);
        Check.end();
    }

    private static void isTrue(String what, boolean holds) {
        Check.due(what, holds ? 1 : 0, 1);
    }

    private static List<String> blocks(String readme, String kind) {
        List<String> found = new ArrayList<>();
        Matcher m = Pattern.compile("^```" + kind + "\n(.*?)^```$", Pattern.DOTALL | Pattern.MULTILINE)
            .matcher(readme);
        while (m.find()) {
            found.add(m.group(1));
        }
        return found;
    }

    private static void example(String readme) throws IOException {
        isTrue("README.md shows Example.java",
            blocks(readme, "java").equals(List.of(Files.readString(TESTS.resolve("Example.java")))));
        PrintStream screen = System.out;
        ByteArrayOutputStream printed = new ByteArrayOutputStream();
        System.setOut(new PrintStream(printed, true, StandardCharsets.US_ASCII));
        Example.main(new String[0]);
        System.setOut(screen);
        String lines = printed.toString(StandardCharsets.US_ASCII).replace(System.lineSeparator(), "\n");
        isTrue("README.md shows what it prints:\n" + lines, blocks(readme, "text").equals(List.of(lines)));
    }

    /** Each call stands at the begin of a row, with as many numbers as it takes. */
    private static void calls(String readme) {
        int rows = 0;
        for (Method method : RainTarget.class.getDeclaredMethods()) {
            if (Modifier.isPublic(method.getModifiers())) {
                Matcher m = Pattern.compile("^\\| `" + method.getName() + "\\(([a-z, ]*)\\)` \\|",
                    Pattern.MULTILINE).matcher(readme);
                boolean told = m.find();
                isTrue("README.md tells " + method.getName(), told);
                int numbers = !told || m.group(1).isEmpty() ? 0 : m.group(1).split(", ").length;
                Check.due("numbers of " + method.getName(), numbers, method.getParameterCount());
                rows++;
            }
        }
        Check.due("calls", rows, 25);
    }

    private static void constants(String readme) throws IllegalAccessException {
        for (Field field : RainTarget.class.getFields()) {
            String told = "`" + field.getName() + "` (" + field.getInt(null);
            isTrue("README.md tells " + told, readme.contains(told));
        }
    }

    private static void tests(String readme) throws IOException {
        String list = readme.substring(readme.indexOf("## Tests"));
        try (DirectoryStream<Path> files = Files.newDirectoryStream(TESTS, "*Test.java")) {
            for (Path file : files) {
                String name = file.getFileName().toString().replace(".java", "");
                isTrue("README.md names " + name, list.contains("`" + name + "`"));
            }
        }
    }

    /** The files that its commands name are there. */
    private static void commands(String readme) {
        List<String> told = blocks(readme, "sh");
        isTrue("README.md tells .ci/run", told.contains(".ci/run\n"));
        isTrue(".ci/run is there", Files.exists(Path.of(".ci/run")));
        for (String command : told) {
            Matcher m = Pattern.compile("\\S+\\.java").matcher(command);
            while (m.find()) {
                String name = m.group().replace("/*.java", "");
                isTrue(name + " is there", Files.exists(Path.of(name)));
            }
        }
    }
}
