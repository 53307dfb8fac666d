import java.io.IOException;
import java.io.UncheckedIOException;
import java.nio.file.Files;
import java.nio.file.Path;
import java.util.ArrayList;
import java.util.List;
import java.util.Map;
import java.util.Set;
import java.util.TreeMap;
import java.util.TreeSet;
import java.util.regex.Matcher;
import java.util.regex.Pattern;

/** DOC.md by its sections, so that a test can name the sentence that it is about, and is told if there is none such. */
final class Document {
    private static final Path FILE = Path.of("../shared/DOC.md");
    private static final Pattern REFUSAL = Pattern.compile("\\b(NONE|BAD|STATE|FULL|NULL|INDEX|CAST|STORE|SIZE)\\b");
    private static final Pattern METHOD = Pattern.compile("public (?:int|long) (\\w+\\([^)]*\\));");
    private static final Map<String, String> SECTIONS = read();

    private Document() {
    }

    /** The section whose title begins so: "Terms", "Promise 4". */
    private static String section(String title) {
        return SECTIONS.getOrDefault(title, "");
    }

    static boolean says(String title, String sentence) {
        return !sentence.isEmpty() && section(title).contains(onOneLine(sentence));
    }

    /** What a promise says that its call may be refused by, or answer where there is none such. */
    static Set<String> refusals(String title) {
        Set<String> words = new TreeSet<>();
        Matcher found = REFUSAL.matcher(section(title));
        while (found.find()) {
            words.add(found.group());
        }
        return words;
    }

    /** The methods of the face, in its order, without their types: "part(kind)". */
    static List<String> face() {
        List<String> methods = new ArrayList<>();
        Matcher found = METHOD.matcher(section("The public face"));
        while (found.find()) {
            methods.add(found.group(1).replaceAll("\\b(int|boolean) ", ""));
        }
        return methods;
    }

    private static Map<String, String> read() {
        Map<String, String> sections = new TreeMap<>();
        try {
            for (String section : Files.readString(FILE).split("(?m)^## ")) {
                int end = section.indexOf('\n');
                sections.put(section.substring(0, end).replaceAll(":.*", "").trim(), onOneLine(section.substring(end)));
            }
        } catch (IOException e) {
            throw new UncheckedIOException(e);
        }
        return sections;
    }

    private static String onOneLine(String text) {
        return text.replaceAll("\\s+", " ");
    }
}
