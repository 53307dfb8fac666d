import java.io.IOException;
import java.lang.reflect.Constructor;
import java.lang.reflect.Field;
import java.lang.reflect.Method;
import java.lang.reflect.Modifier;
import java.nio.file.Files;
import java.nio.file.Path;
import java.util.ArrayList;
import java.util.Arrays;
import java.util.List;
import java.util.TreeSet;
import java.util.regex.Matcher;
import java.util.regex.Pattern;
import java.util.stream.Collectors;
import java.util.stream.Stream;

/** The face of the document, and those rules of LANGUAGE.md that can be seen without running the program. */
public final class LanguageTest {
    private static final Path PROGRAM = Path.of("src/main/java/StaveScore.java");
    private static final Due due = new Due("LanguageTest");
    private static final String FACE = """
        int part(int)
        int bar(int, int)
        int put(int, int, int, int, int, int)
        int drop(int)
        int chord(int, int)
        int pitch(int, int)
        int heard(int, int)
        int shift(int, int)
        int transpose(int, int)
        int tie(int, boolean)
        int value(int, int, int)
        int at(int, int)
        long time(int, int)
        long length(int, int)
        int event(int, int)
        int asks(int, int, int)
        int tuplet(int, int, int, int, int, int)
        int untuplet(int)
        int tupletAt(int, int)
        int line(int, int, int)
        int end(int, int)
        int lineAt(int, int)
        int walk()
        int walked(int)
        int check()
        int finding(int, int)
        int equal(int, int)
        int rack(int, int, int)
        int hold(int, int, int)
        int held(int, int)
        int slide(int, int, int, int)
        int shelf(int, int, int)
        int lay(int, boolean, int, int)
        int item(int, int)
        int lift(int, int, int)
        int copy(int, int, int, int, int)
        int play(int, int)
        int failures(int)
        int status()
        long trace()
        int count(int)
        """;

    public static void main(String[] args) throws IOException {
        face();
        members();
        words(withoutComments(Files.readString(PROGRAM)));
        due.finish();
    }

    private static void face() {
        TreeSet<String> want = new TreeSet<>(FACE.lines().collect(Collectors.toList()));
        TreeSet<String> got = new TreeSet<>();
        for (Method m : StaveScore.class.getDeclaredMethods()) {
            if (!Modifier.isPrivate(m.getModifiers())) {
                due.holds("public and no more: " + m, m.getModifiers() == Modifier.PUBLIC);
                String types = Stream.of(m.getParameterTypes()).map(Class::getName).collect(Collectors.joining(", "));
                got.add(m.getReturnType() + " " + m.getName() + "(" + types + ")");
            }
        }
        due.holds("the methods are " + got, got.equals(want));
        Constructor<?>[] made = StaveScore.class.getDeclaredConstructors();
        due.holds("one constructor", made.length == 1 && made[0].toString().equals("public StaveScore()"));
        due.holds("public and final", StaveScore.class.getModifiers() == (Modifier.PUBLIC | Modifier.FINAL));
        String names = Stream.of(StaveScore.class.getFields()).map(Field::getName).sorted().collect(Collectors.joining(" "));
        due.holds("the constants are " + names, names.equals("BAD CAST FULL INDEX NONE NULL SIZE STATE STORE"));
    }

    private static void members() {
        List<String> publicNames = Stream.of(StaveScore.class.getMethods()).map(Method::getName).collect(Collectors.toList());
        List<Class<?>> all = new ArrayList<>(Arrays.asList(StaveScore.class.getDeclaredClasses()));
        all.forEach(c -> due.holds("static: " + c, Modifier.isStatic(c.getModifiers())));
        all.add(StaveScore.class);
        due.holds("twelve classes at most", all.size() <= 12);
        for (Class<?> c : all) {
            int fields = 0;
            for (Field f : c.getDeclaredFields()) {
                boolean constant = Modifier.isStatic(f.getModifiers());
                fields += constant ? 0 : 1;
                due.holds("final: " + f, !constant || Modifier.isFinal(f.getModifiers()));
                due.holds("hidden: " + f, c != StaveScore.class || constant || Modifier.isPrivate(f.getModifiers()));
            }
            due.holds("twenty fields at most: " + c, fields <= 20);
            for (Method m : c.getDeclaredMethods()) {
                due.holds("seven parameters at most: " + m, m.getParameterCount() <= 7);
                boolean hidden = c != StaveScore.class || Modifier.isPrivate(m.getModifiers());
                due.holds("a name of its own: " + m, !hidden || !publicNames.contains(m.getName()));
            }
        }
    }

    private static String withoutComments(String text) {
        return text.replaceAll("(?s)/\\*.*?\\*/", "").replaceAll("//[^\n]*", "");
    }

    private static void words(String text) {
        String[] ruledOut = {"throw", "throws", "try", "catch", "synchronized", "assert", "double", "float", "protected",
            "package", "Exact", "Object", "System\\.(?!arraycopy)", "Arrays\\.(?!fill|copyOf)", "->", "::", "@", "\""};
        for (String word : ruledOut) {
            String bound = Character.isLetter(word.charAt(0)) ? "\\b" : "";
            Matcher found = Pattern.compile(bound + word + (word.matches("\\w+") ? "\\b" : "")).matcher(text);
            due.holds("no " + word, !found.find());
        }
        due.is("one import", text.split("\\bimport\\b", -1).length - 1, 1);
        due.holds("of Arrays", text.contains("import java.util.Arrays;"));
        int open = 0;
        int start = 0;
        String[] lines = text.split("\n");
        for (int i = 0; i < lines.length; i++) {
            boolean method = lines[i].matches("^ +[^=;]*\\) \\{$") && !lines[i].matches("^ *(if|for|while|switch|\\}).*");
            if (method) {
                start = i;
                open = lines[i].indexOf(lines[i].trim());
            }
            if (lines[i].equals(" ".repeat(open) + "}")) {
                due.holds("sixty lines at most: " + lines[start].trim(), i - start < 60);
            }
        }
    }
}
