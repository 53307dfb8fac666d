import java.io.IOException;
import java.lang.reflect.InvocationTargetException;
import java.net.URL;
import java.net.URLClassLoader;
import java.nio.file.Files;
import java.nio.file.Path;
import java.util.ArrayList;
import java.util.Arrays;
import java.util.List;
import java.util.Set;
import java.util.TreeSet;
import java.util.function.BiConsumer;
import java.util.regex.Matcher;
import java.util.regex.Pattern;
import java.util.stream.Collectors;
import java.util.stream.Stream;
import javax.tools.ToolProvider;

/** README.md against the project: its examples are run, its tables compared with the document and the files. */
public final class ReadmeTest {
    private static final Path TESTS = Path.of("src/test/java");
    private static final int FIRST_PROMISE_OF_A_METHOD = 2;
    /** A line of an example with its answer: a call, perhaps with the name that its answer gets. */
    private static final Pattern ANSWERED =
        Pattern.compile("(?:int (\\w+) = )?(score\\..*\\));\\s+// (-?\\d+|[A-Z]+)(?:: .+)?");
    private static final Due due = new Due("ReadmeTest");

    /** A call of an example, and what README.md says that it answers. */
    private record Answer(String call, long due) { }

    public static void main(String[] args) throws IOException, ReflectiveOperationException {
        String readme = Files.readString(Path.of("README.md"));
        examples(readme);
        calls(readme);
        constants(readme);
        meanings(readme);
        instruments(readme);
        tests(readme);
        paths(readme);
        due.finish();
    }

    private static void examples(String readme) throws IOException, ReflectiveOperationException {
        List<Answer> answers = new ArrayList<>();
        StringBuilder program = new StringBuilder("public final class ReadmeExamples {\n"
            + "public static void run(java.util.function.BiConsumer<Integer, Long> told) {\n");
        Matcher block = Pattern.compile("(?s)```java\n(.*?)```").matcher(readme);
        while (block.find()) {
            program.append("{\n");
            block.group(1).lines().forEach(line -> program.append(example(line, answers)).append('\n'));
            program.append("}\n");
        }
        program.append("}\n}\n");
        due.holds("there are examples", !answers.isEmpty());
        int[] told = {0};
        run(program.toString(), (i, got) -> {
            due.is("example " + answers.get(i).call, got, answers.get(i).due);
            told[0]++;
        });
        due.is("all examples were run", told[0], answers.size());
    }

    /** A line of an example as it is run: where it calls the score, its answer is told. */
    private static String example(String line, List<Answer> answers) {
        Matcher answered = ANSWERED.matcher(line);
        if (!answered.matches()) {
            due.holds("README.md says what is answered: " + line, !line.contains("score."));
            return line;
        }
        String name = answered.group(1);
        String call = answered.group(2);
        String told = "told.accept(" + answers.size() + ", (long) ";
        answers.add(new Answer(call, numberOf(answered.group(3))));
        return name == null ? told + call + ");" : "int " + name + " = " + call + "; " + told + name + ");";
    }

    private static void run(String program, BiConsumer<Integer, Long> told) throws IOException, ReflectiveOperationException {
        Path out = Files.createTempDirectory("readme");
        Path source = Files.writeString(out.resolve("ReadmeExamples.java"), program);
        int failed = ToolProvider.getSystemJavaCompiler().run(null, null, null, "-cp", System.getProperty("java.class.path"),
            "-d", out.toString(), source.toString());
        due.is("the examples compile", failed, 0);
        if (failed == 0) {
            try (URLClassLoader loader = new URLClassLoader(new URL[] {out.toUri().toURL()})) {
                loader.loadClass("ReadmeExamples").getMethod("run", BiConsumer.class).invoke(null, told);
            } catch (InvocationTargetException e) {
                due.holds("an example threw " + e.getCause(), false);
            }
        }
        for (String name : new String[] {"ReadmeExamples.class", "ReadmeExamples.java", ""}) {
            Files.deleteIfExists(out.resolve(name));
        }
    }

    /** Each call of the face has its row, in the face's order, with the refusals that its promise names. */
    private static void calls(String readme) {
        List<String[]> rows = rows(readme, "`\\w+\\(.*\\)`");
        List<String> face = Document.face();
        List<String> listed = rows.stream().map(row -> row[0].replace("`", "")).collect(Collectors.toList());
        due.holds("the calls listed are those of the face: " + listed, listed.equals(face));
        for (int i = 0; i < Math.min(rows.size(), face.size()); i++) {
            String promise = "Promise " + (i + FIRST_PROMISE_OF_A_METHOD);
            String name = face.get(i).substring(0, face.get(i).indexOf('('));
            due.holds(promise + " is that of " + name, Document.says(promise, " " + name + "("));
            // The other words of failures are what it counts, not what it is refused by.
            Set<String> want = name.equals("failures") ? words("BAD") : Document.refusals(promise);
            want.remove("NONE");
            Set<String> got = words(rows.get(i)[2]);
            due.holds(promise + ": " + name + " is refused by " + want + ", not by " + got, got.equals(want));
        }
    }

    private static void constants(String readme) throws ReflectiveOperationException {
        List<String[]> rows = rows(readme, "`[A-Z]+`");
        List<String> listed = rows.stream().map(row -> row[0].replace("`", "")).collect(Collectors.toList());
        due.holds("the constants listed are " + listed,
            listed.equals(List.of("BAD", "STATE", "FULL", "NULL", "INDEX", "CAST", "STORE", "SIZE")));
        for (int i = 0; i < rows.size(); i++) {
            long code = numberOf(listed.get(i));
            due.is(listed.get(i), Long.parseLong(rows.get(i)[1]), code);
            String kind = code > StaveScore.NULL ? "" : Long.toString(StaveScore.NULL - code);
            due.holds(listed.get(i) + " is of failures(" + kind + ")", rows.get(i)[3].equals(kind));
        }
    }

    /** What README.md calls "3 HORN", the document calls so, too, or "HORN (3". */
    private static void meanings(String readme) {
        String table = readme.substring(readme.indexOf("### What the numbers mean"), readme.indexOf("### The calls"));
        Matcher pair = Pattern.compile("\\b(\\d) ([A-Z]{3,}(?: HORN)?)").matcher(table);
        int pairs = 0;
        while (pair.find()) {
            pairs++;
            boolean said = Document.says("Terms", pair.group()) || Document.says("Terms", pair.group(2) + " (" + pair.group(1));
            due.holds("\"Terms\" says " + pair.group(), said);
        }
        due.is("kinds of parts (twice), events, lines, shelves and findings", pairs, 6 + 6 + 5 + 4 + 4 + 8);
    }

    /** The table of instruments, against what they tell. */
    private static void instruments(String readme) {
        List<String[]> rows = rows(readme, "\\d [A-Z ]+");
        due.is("instruments", rows.size(), 6);
        for (String[] row : rows) {
            StaveScore score = new StaveScore();
            score.part(Integer.parseInt(row[0].substring(0, 1)));
            for (int pitch : new int[] {0, 60, 127}) {
                long asked = score.trace();
                due.is(row[0] + ", heard of " + pitch, score.asks(0, 0, pitch), heard(row[1], pitch));
                due.is(row[0] + ", trace() of heard", score.trace() - asked, Long.parseLong(row[2]));
            }
            long asked = score.trace();
            due.is(row[0] + ", least", score.asks(0, 1, 0), Long.parseLong(row[3]));
            due.is(row[0] + ", trace() of least", score.trace() - asked, Long.parseLong(row[4]));
            due.is(row[0] + ", most", score.asks(0, 2, 0), Long.parseLong(row[5]));
            due.is(row[0] + ", trace() of most", score.trace() - asked, Long.parseLong(row[4]));
        }
    }

    private static int heard(String told, int pitch) {
        int number = told.equals("the pitch") ? 0 : Integer.parseInt(told.replaceAll("\\D", ""));
        return told.startsWith("always") ? number : pitch - number;
    }

    private static void tests(String readme) throws IOException {
        Set<String> listed = rows(readme, "`\\w+Test`").stream().map(row -> row[0].replace("`", ""))
            .collect(Collectors.toCollection(TreeSet::new));
        Set<String> helpers = new TreeSet<>();
        Matcher named = Pattern.compile("`([A-Z][a-z]\\w+)`").matcher(readme);
        while (named.find()) {
            helpers.add(named.group(1));
        }
        helpers.removeAll(listed);
        try (Stream<Path> files = Files.list(TESTS)) {
            Set<String> there = files.map(file -> file.getFileName().toString().replace(".java", ""))
                .collect(Collectors.toCollection(TreeSet::new));
            Set<String> tests = there.stream().filter(name -> name.endsWith("Test")).collect(Collectors.toCollection(TreeSet::new));
            due.holds("the tests listed are those that are there: " + listed, listed.equals(tests));
            there.removeAll(tests);
            due.holds("the helpers named are those that are there: " + helpers, helpers.equals(there));
        }
    }

    private static void paths(String readme) {
        Matcher path = Pattern.compile("(?:\\.\\./shared|src|\\.ci)/[\\w./]*\\w").matcher(readme);
        while (path.find()) {
            due.holds("there is " + path.group(), Files.exists(Path.of(path.group())));
        }
    }

    /** The rows of README.md's tables whose first column is of this form. */
    private static List<String[]> rows(String readme, String first) {
        return readme.lines().filter(line -> line.startsWith("| "))
            .map(line -> Arrays.stream(line.substring(1).split("\\|")).map(String::trim).toArray(String[]::new))
            .filter(row -> row[0].matches(first)).collect(Collectors.toList());
    }

    private static Set<String> words(String list) {
        return list.isEmpty() ? new TreeSet<>() : new TreeSet<>(Arrays.asList(list.split(", ")));
    }

    private static long numberOf(String word) {
        if (!word.matches("[A-Z]+")) {
            return Long.parseLong(word);
        }
        try {
            return StaveScore.class.getField(word).getInt(null);
        } catch (ReflectiveOperationException e) {
            due.holds("there is a constant " + word, false);
            return 0;
        }
    }
}
