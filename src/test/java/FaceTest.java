import java.io.IOException;
import java.lang.reflect.Constructor;
import java.lang.reflect.Field;
import java.lang.reflect.Member;
import java.lang.reflect.Method;
import java.lang.reflect.Modifier;
import java.nio.file.Files;
import java.nio.file.Path;
import java.util.Arrays;
import java.util.Set;
import java.util.TreeSet;
import java.util.regex.Pattern;

/** The public face, and what LANGUAGE.md rules out as far as names and words show it. */
public final class FaceTest {
    private static final String[] FACE = {
        "int anew()", "int bat(int)", "int best(int,int,int)", "int clouded(int)", "int count(int)",
        "int erase()", "int event(int,int)", "int fault()", "int gain(int)", "int game()",
        "int match(int,int,int)", "int mood(int,int,int)", "int odd(int)", "int odds(int)",
        "int play(int,int)", "int rain(int)", "int sheet(int,int)", "int simple(int)",
        "int spend(int,int)", "int target(int)", "int tried()", "int won(int)", "int write(long,int)",
        "long makes(int,int,int)", "long wins(int,int,int,int)"};
    private static final String[] RULED_OUT = {
        "\\bthrow\\b", "\\btry\\b", "\\bcatch\\b", "\\bsynchronized\\b", "\\bassert\\b", "->", "::",
        "\\bstatic\\s*\\{", "\\bprotected\\b", "\\bThread\\b", "\\bSystem\\.(?!arraycopy)", "Exact\\b",
        "\\bObject\\b", "\\bpackage\\b", "\\bvar\\b", "[^\\x00-\\x7f]"};

    public static void main(String[] args) throws IOException {
        face();
        constants();
        insides();
        words();
        Check.end();
    }

    private static void isTrue(String what, boolean holds) {
        Check.due(what, holds ? 1 : 0, 1);
    }

    private static void face() {
        Set<String> open = new TreeSet<>();
        Set<String> names = new TreeSet<>();
        for (Method method : RainTarget.class.getDeclaredMethods()) {
            if (Modifier.isPrivate(method.getModifiers())) {
                continue;
            }
            isTrue(method + " is public and no static one", method.getModifiers() == Modifier.PUBLIC);
            String taken = Arrays.toString(method.getParameterTypes()).replaceAll("[\\[\\] ]", "");
            open.add(method.getReturnType() + " " + method.getName() + "(" + taken + ")");
            names.add(method.getName());
        }
        isTrue("the methods are " + open, open.equals(new TreeSet<>(Arrays.asList(FACE))));
        for (Method method : RainTarget.class.getDeclaredMethods()) {
            isTrue(method + " has a name of its own",
                !Modifier.isPrivate(method.getModifiers()) || !names.contains(method.getName()));
        }
        for (Class<?> inside : RainTarget.class.getDeclaredClasses()) {
            for (Method method : inside.getDeclaredMethods()) {
                isTrue(method + " has a name of its own", !names.contains(method.getName()));
            }
        }
        isTrue("the class", RainTarget.class.getModifiers() == (Modifier.PUBLIC | Modifier.FINAL));
        Constructor<?>[] constructors = RainTarget.class.getDeclaredConstructors();
        isTrue("one constructor", constructors.length == 1 && constructors[0].getParameterCount() == 0
            && constructors[0].getModifiers() == Modifier.PUBLIC);
    }

    private static void constants() {
        Set<String> open = new TreeSet<>();
        for (Field field : RainTarget.class.getDeclaredFields()) {
            if (!Modifier.isPrivate(field.getModifiers())) {
                open.add(field.getName());
                isTrue(field + " is a constant",
                    field.getModifiers() == (Modifier.PUBLIC | Modifier.STATIC | Modifier.FINAL)
                        && field.getType() == int.class);
            }
        }
        isTrue("the constants are " + open,
            open.equals(new TreeSet<>(Arrays.asList("NONE", "UNKNOWN", "OUTSIDE", "NOT", "FULL"))));
        Check.due("NONE", RainTarget.NONE, -1);
        Check.due("UNKNOWN", RainTarget.UNKNOWN, -2);
        Check.due("OUTSIDE", RainTarget.OUTSIDE, -3);
        Check.due("NOT", RainTarget.NOT, -4);
        Check.due("FULL", RainTarget.FULL, -5);
    }

    private static void insides() {
        Class<?>[] inside = RainTarget.class.getDeclaredClasses();
        isTrue("twelve classes at most", inside.length <= 11);
        for (Class<?> c : inside) {
            isTrue(c + " is static", Modifier.isStatic(c.getModifiers()));
            isTrue(c + " is not open", !Modifier.isPublic(c.getModifiers()));
            small(c);
        }
        small(RainTarget.class);
    }

    private static void small(Class<?> c) {
        int fields = 0;
        for (Field field : c.getDeclaredFields()) {
            fields += Modifier.isStatic(field.getModifiers()) ? 0 : 1;
            isTrue(field + " is final if static", isFinalIfStatic(field));
        }
        isTrue(c + " has twenty fields at most", fields <= 20);
        for (Method method : c.getDeclaredMethods()) {
            isTrue(method + " takes seven at most", method.getParameterCount() <= 7);
        }
    }

    private static boolean isFinalIfStatic(Member member) {
        return !Modifier.isStatic(member.getModifiers()) || Modifier.isFinal(member.getModifiers());
    }

    private static void words() throws IOException {
        String source = Files.readString(Path.of("src/main/java/RainTarget.java"));
        String code = source.replaceAll("(?s)/\\*.*?\\*/", "").replaceAll("//[^\n]*", "");
        for (String word : RULED_OUT) {
            isTrue("the source has no " + word, !Pattern.compile(word).matcher(code).find());
        }
        for (String line : code.split("\n")) {
            isTrue(line, !line.startsWith("import") || line.equals("import java.util.Arrays;"));
            isTrue("nothing is made but in constructors: " + line, !line.contains(" new ")
                || line.matches(" +private final [\\w\\[\\]]+ \\w+ = new .*")
                || line.matches(" {8}\\w+ = new \\w+\\([\\w, ]*\\);"));
        }
    }
}
