/** Promises 2 and 3: put and cut. */
public final class PutCutTest {
    public static void main(String[] args) {
        theLowestByteComesFirst();
        theNumberOfCharacters();
        whichCharactersThereAre();
        howManyThereAre(false, 240);
        howManyThereAre(true, 96);
        cutKeepsTheFirst();
        textAndQuestionAreTwo();
        charactersStayWhateverReadsThem();
        charactersStayWhenReadersThrow();
        whatIsCutIsNotReadAnyMore();
        Run.finish();
    }

    private static void whatIsCutIsNotReadAnyMore() {
        Run.sentence("The text or question keeps its first n characters");
        Run run = new Run();
        run.put(false, "a\r\n");
        run.x.cut(false, 2);
        Run.due("13 whose 10 was cut", Run.told(run.x::load), "IllegalArgumentException");
        run.put(false, "a\n\"x\"");
        run.x.cut(false, 4);
        Run.due("a field whose end was cut", Run.told(run.x::load), "IllegalArgumentException");
        run.put(false, "a\n\"x\"\"");
        run.x.cut(false, 5);
        Run.due("a field that was cut to an end", Run.told(run.x::load), "1");
        for (String question : new String[] {"rows where  ", "rows where a=''", "rows where a<>''"}) {
            run.put(true, question);
            run.x.cut(true, question.length() - 2);
            Run.due("ask of a cut [" + question + "]", Run.told(run.x::ask), "IllegalArgumentException");
            Run.due("fault of a cut [" + question + "]", run.x.fault(), question.length() - 2);
        }
        run.put(true, "rows where a<>''");
        run.x.cut(true, 13);
        run.x.put(true, Run.word("'z'"), 3);
        Run.due("a sign that was cut", Run.told(run.x::ask), "1");
    }

    private static void theLowestByteComesFirst() {
        Run.sentence("n characters come behind the text, or behind the question, the lowest byte of w first");
        Run run = new Run();
        Run.due("put", run.x.put(false, 'a' | ',' << 8 | 'b' << 16, 3), true);
        Run.due("load", Run.told(run.x::load), "0");
        Run.due("written", run.written(false), "a,b\n");
        Run.due("put of eight", run.x.put(false, Run.word("\n12345,6"), 8), true);
        Run.due("put of one behind them", run.x.put(false, Run.word("78"), 1), true);
        run.x.load();
        Run.due("written", run.written(false), "a,b\n12345,67\n");
        for (String part : new String[] {" count ", "w", "here a=1", "2345an", "d b=67"}) {
            Run.due("put of a question's part", run.x.put(true, Run.word(part), part.length()), true);
        }
        Run.due("ask of the parts", Run.told(run.x::ask) + run.line(0), "11");
    }

    private static void theNumberOfCharacters() {
        Run.sentence("False, changing nothing, when n is not 1 .. 8");
        Run run = new Run();
        long w = Run.word("abcdefgh");
        for (int n : new int[] {0, -1, 9, 16, Integer.MIN_VALUE, Integer.MAX_VALUE}) {
            Run.due("put of " + n, run.x.put(false, w, n), false);
            Run.due("put of " + n, run.x.put(true, w, n), false);
        }
        Run.due("nothing changed", run.x.cut(false, 1) || run.x.cut(true, 1), false);
        for (int n = 1; n <= 8; n++) {
            Run.due("put of " + n, run.x.put(false, w, n), true);
            Run.due("its length", run.x.cut(false, n) && !run.x.cut(false, n + 1), true);
            run.x.cut(false, 0);
        }
    }

    private static void whichCharactersThereAre() {
        Run.sentence("or one is not as said");
        for (int c = 0; c < 256; c++) {
            boolean printed = c >= 32 && c <= 126;
            Run run = new Run();
            Run.due("put of " + c + " into the text", run.x.put(false, c, 1), printed || c == 10 || c == 13);
            Run.due("put of " + c + " into the question", run.x.put(true, c, 1), printed);
        }
        Run run = new Run();
        Run.due("bytes above n", run.x.put(true, 'a' | -256L, 1), true);
        Run.due("a wrong one at the end", run.x.put(true, Run.word("abcdefg\u007f"), 8), false);
        Run.due("a byte below zero", run.x.put(false, -1L << 56 | Run.word("abcdefg"), 8), false);
        Run.due("nothing changed", run.x.cut(true, 2) || run.x.cut(false, 1), false);
    }

    private static void howManyThereAre(boolean question, int limit) {
        Run.sentence("there would be more than it may have");
        Run run = new Run();
        for (int i = 0; i < limit; i += 8) {
            Run.due("put up to " + (i + 8), run.x.put(question, Run.word("aaaaaaaa"), 8), true);
        }
        Run.due("one more", run.x.put(question, 'a', 1), false);
        Run.due("cut", run.x.cut(question, limit - 3), true);
        Run.due("four for three", run.x.put(question, Run.word("aaaa"), 4), false);
        Run.due("three for three", run.x.put(question, Run.word("aaa"), 3), true);
        Run.due("all there", run.x.cut(question, limit), true);
        Run.due("no more there", run.x.cut(question, limit + 1), false);
    }

    private static void cutKeepsTheFirst() {
        Run.sentence("False, changing nothing, when n is negative, or it has not so many");
        Run run = new Run();
        run.put(false, "abc,d\n1,2");
        for (int n : new int[] {-1, 10, Integer.MIN_VALUE, Integer.MAX_VALUE}) {
            Run.due("cut to " + n, run.x.cut(false, n), false);
        }
        Run.due("nothing changed", Run.told(run.x::load), "1");
        Run.due("cut to all", run.x.cut(false, 9), true);
        Run.due("cut to the header", run.x.cut(false, 5), true);
        Run.due("load", Run.told(run.x::load), "0");
        Run.due("cut to two", run.x.cut(false, 2), true);
        run.x.put(false, 'z', 1);
        run.x.load();
        Run.due("written", run.written(false), "abz\n");
        Run.due("cut to none", run.x.cut(false, 0), true);
        Run.due("nothing is left", Run.told(run.x::load), "NoSuchElementException");
    }

    private static void textAndQuestionAreTwo() {
        Run.sentence("The text or question keeps its first n characters");
        Run run = new Run();
        run.put(false, "a\n5");
        run.put(true, "rows");
        Run.due("cut of the question", run.x.cut(true, 0), true);
        Run.due("load", Run.told(run.x::load), "1");
        run.put(true, "rows");
        Run.due("cut of the text", run.x.cut(false, 0), true);
        Run.due("ask", Run.told(run.x::ask), "1");
    }

    private static void charactersStayWhateverReadsThem() {
        Run.sentence("(they stay, whatever reads them; cut() alone makes them shorter)");
        Run run = new Run();
        run.put(false, "a\n1\n");
        run.x.load();
        run.x.put(false, Run.word("2\n"), 2);
        Run.due("the table before the next load", run.x.columns() + " " + run.written(false), "1 a\n1\n");
        Run.due("load of what stayed and came", Run.told(run.x::load), "2");
        run.put(true, "rows ");
        run.x.ask();
        run.x.put(true, Run.word("where a"), 7);
        run.x.put(true, Run.word("=2"), 2);
        Run.due("ask of what stayed and came", Run.told(run.x::ask), "1");
        run.put(true, "rows ?");
        Run.due("a question that is none", Run.told(run.x::ask), "IllegalArgumentException");
        run.x.cut(true, 5);
        Run.due("ask of what is left", Run.told(run.x::ask), "2");
    }

    /** Texts and questions that are good, and such that load() or ask() throws each exception that it names. */
    private static void charactersStayWhenReadersThrow() {
        Run.sentence("(they stay, whatever reads them; cut() alone makes them shorter)");
        String sumBeyond = "a\n9223372036854775807\n1\n";
        String[] texts = {"", "a\n1\n", "a\n\"", "a\n1,2\n", "by\n1\n", "a" + "\n1".repeat(17), sumBeyond,
            "a\n\"x\"\"y\"\r\n" + "z".repeat(229)};
        String[] questions = {"", "rows", "rows where", "rows ?", "sum(a)", "count by a" + " ".repeat(86)};
        for (String first : new String[] {"", "a\n5", sumBeyond}) {
            for (String text : texts) {
                for (String question : questions) {
                    dueStaying(first, text, question);
                }
            }
        }
    }

    /** All that reads is called thrice; then text and question are what they are in an object where nothing was. */
    private static void dueStaying(String first, String text, String question) {
        Run run = new Run();
        run.load(first);
        run.put(false, text);
        run.put(true, question);
        for (int turn = 0; turn < 3; turn++) {
            Run.told(() -> run.x.write(true));
            Run.told(() -> run.x.write(false));
            Run.told(run.x::ask);
            Run.told(run.x::load);
            dueLength(run, false, text.length());
            dueLength(run, true, question.length());
        }
        Run fresh = new Run();
        fresh.load(first);
        fresh.put(false, text);
        fresh.put(true, question);
        Run.due("the inputs [" + text + "] and [" + question + "]", read(run), read(fresh));
    }

    private static void dueLength(Run run, boolean question, int length) {
        Run.due("cut to one more than " + length, run.x.cut(question, length + 1), false);
        Run.due("cut to " + length, run.x.cut(question, length), true);
    }

    private static String read(Run run) {
        String loaded = Run.told(run.x::load) + " " + run.written(false);
        return loaded + " " + Run.told(run.x::ask) + " " + run.x.fault() + " " + Run.told(() -> run.x.write(true));
    }
}
