import java.io.IOException;
import java.nio.file.Files;
import java.nio.file.Path;
import java.util.function.Function;
import java.util.regex.Matcher;
import java.util.regex.Pattern;

/** README.md: the calls that it shows answer what is said behind them, and its questions are such. */
public final class ReadmeTest {
    private static String readme;
    /** Where the README has been read up to: its calls come in this test's order. */
    private static int place = 0;

    public static void main(String[] args) throws IOException {
        readme = Files.readString(Path.of("README.md"));
        AskedTable x = new AskedTable();
        dueFunction();
        dueCalls(x);
        dueQuestions(x);
        dueNames();
        Run.finish();
    }

    /** Each line of the function that the README shows stands here, too, where it is called. */
    private static void dueFunction() throws IOException {
        String source = Files.readString(Path.of("src/test/java/ReadmeTest.java"));
        for (String line : block("```java\n").split("\n")) {
            String code = line.replaceAll("//.*", "").strip();
            Run.due("[" + code + "] stands in ReadmeTest", source.contains(code), true);
        }
    }

    /** What the README has from its next opening like this one to the end of that. */
    private static String block(String opening) {
        goTo(opening);
        int start = place + opening.length();
        return readme.substring(start, readme.indexOf("```", start));
    }

    private static void dueCalls(AskedTable x) {
        put(x, false, "a,b,c,d\n1,5,x,2020-02-29\n2,,\"x, y\",2021-12-31\n");
        due("x.load()", t -> t.load(), x);
        due("x.columns()", t -> t.columns(), x);
        due("x.type(0)", t -> t.type(0), x);
        due("x.type(2)", t -> t.type(2), x);
        due("x.type(3)", t -> t.type(3), x);
        due("x.value(0, 3)", t -> t.value(0, 3), x);
        due("x.isMissing(1, 1)", t -> t.isMissing(1, 1), x);
        put(x, true, "sum(a) by c");
        due("x.ask()", t -> t.ask(), x);
        due("x.line(1)", t -> t.line(1), x);
        due("x.aggregate(1)", t -> t.aggregate(1), x);
        due("x.write(true)", t -> t.write(true), x);
        due("x.out(0)", t -> t.out(0), x);
        String out = "c,sum\nx,1\n\"x, y\",2\n";
        for (int i = 0; i < out.length(); i++) {
            Run.due("out " + i, (char) x.out(i), out.charAt(i));
        }
        due("x.cut(true, 0)", t -> t.cut(true, 0), x);
        put(x, true, "rows order d desc");
        due("x.ask()", t -> t.ask(), x);
        due("x.line(0)", t -> t.line(0), x);
        due("x.cut(true, 11)", t -> t.cut(true, 11), x);
        due("x.ask()", t -> t.ask(), x);
        due("x.fault()", t -> t.fault(), x);
    }

    /** The README's own function; its call with these must come next there. */
    private static void put(AskedTable x, boolean question, String chars) {
        String shown = chars.replace("\n", "\\n").replace("\"", "\\\"");
        goTo("put(x, " + question + ", \"" + shown + "\");");
        for (int i = 0; i < chars.length(); i += 8) {
            int n = Math.min(8, chars.length() - i);
            long w = 0;
            for (int k = 0; k < n; k++) {
                w |= (long) chars.charAt(i + k) << 8 * k;
            }
            x.put(question, w, n);
        }
    }

    private static void goTo(String words) {
        int found = readme.indexOf(words, place);
        Run.due("README has [" + words + "] in its place", found >= 0, true);
        place = Math.max(place, found);
    }

    /** What the call answers must be the first word of what the README says behind it. */
    private static void due(String call, Function<AskedTable, Object> made, AskedTable x) {
        goTo("\n" + call + ";");
        Matcher said = Pattern.compile("\n" + Pattern.quote(call) + "; +// (\\w+)").matcher(readme);
        String answer = said.find(place) && said.start() == place ? said.group(1) : "nothing";
        place++;
        String told;
        try {
            told = made.apply(x).toString();
        } catch (RuntimeException thrown) {
            told = thrown.getClass().getSimpleName();
        }
        Run.due(call + ", by README", told, answer);
    }

    private static void dueQuestions(AskedTable x) {
        String[] questions = block("```text\n").split("\n");
        for (String question : questions) {
            x.cut(true, 0);
            put(question, x);
            Run.due("[" + question + "] is a question", Run.told(x::ask).matches("\\d+"), true);
            Run.due("fault of [" + question + "]", x.fault(), AskedTable.NONE);
        }
        Run.due("questions shown", questions.length, 5);
    }

    private static void put(String question, AskedTable x) {
        for (char c : question.toCharArray()) {
            x.put(true, c, 1);
        }
    }

    /** Each test and each class inside the program that there is, is told, and no other. */
    private static void dueNames() throws IOException {
        String program = Files.readString(Path.of("src/main/java/AskedTable.java"));
        Matcher named = Pattern.compile("private (?:static final class|enum) (\\w+)").matcher(program);
        while (named.find()) {
            Run.due("README tells of " + named.group(1), readme.contains("`" + named.group(1) + "`"), true);
        }
        Matcher told = Pattern.compile("`(\\w+Test)`").matcher(readme);
        while (told.find()) {
            Path file = Path.of("src/test/java", told.group(1) + ".java");
            Run.due("there is a " + told.group(1), Files.exists(file), true);
        }
        try (var files = Files.list(Path.of("src/test/java"))) {
            files.map(file -> file.getFileName().toString().replace(".java", "")).filter(name -> name.endsWith("Test"))
                    .forEach(name -> Run.due("README tells of " + name, readme.contains("`" + name + "`"), true));
        }
    }
}
