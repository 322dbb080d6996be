import java.util.function.LongSupplier;

/**
 * Every short text of a few characters, and every short row of tokens that may still become a question with every
 * token behind it: what the program answers must be what the model answers.
 */
public final class EveryShortTest {
    private static final String CHARACTERS = "a1,\"\n\r";
    private static final int MOST_CHARACTERS = 6;
    private static final String[] TOKENS = {"rows", "count", "sum", "least", "most", "by", "where", "and", "or", "not",
        "is", "null", "order", "desc", "(", ")", "=", "<>", "<", "<=", ">", ">=", "n", "d", "t", "q", "1",
        "2020-02-29", "'x'", "?", "5-", "'"};
    private static final int MOST_TOKENS = 7;

    private final AskedTable program = new AskedTable();
    private final Model model = new Model();
    private final String inputs;

    private EveryShortTest(String text, String question) {
        inputs = "[" + text + "] and [" + question + "]";
        put(false, text);
        put(true, question);
    }

    public static void main(String[] args) {
        everyText("", MOST_CHARACTERS);
        everyQuestion("n,d,t\n1,2020-02-29,x\n,,\n2,2020-03-01,y\n1,,x\n", "", MOST_TOKENS);
        // No column that can be summed; no rows at all.
        everyQuestion("t,d\nx,2020-02-29\n", "", MOST_TOKENS);
        everyQuestion("n,t\n", "", MOST_TOKENS);
        Run.finish();
    }

    private static void everyText(String text, int more) {
        new EveryShortTest(text, "").dueTable();
        new EveryShortTest("a,b\n" + text, "").dueTable();
        for (int i = 0; i < CHARACTERS.length() && more > 0; i++) {
            everyText(text + CHARACTERS.charAt(i), more - 1);
        }
    }

    /** Behind the first token that is wrong nothing is tried any more: the fault would be the same. */
    private static void everyQuestion(String text, String question, int more) {
        EveryShortTest test = new EveryShortTest(text, question);
        test.dueAnswer();
        boolean mayGoOn = test.model.fault() == -1 || test.model.fault() == question.length();
        for (int i = 0; i < TOKENS.length && more > 0 && mayGoOn; i++) {
            everyQuestion(text, question + TOKENS[i] + " ", more - 1);
        }
    }

    private void put(boolean question, String chars) {
        for (int i = 0; i < chars.length(); i += 8) {
            String part = chars.substring(i, Math.min(i + 8, chars.length()));
            program.put(question, Run.word(part), part.length());
            model.put(question, Run.word(part), part.length());
        }
    }

    private void due(String call, LongSupplier ofProgram, LongSupplier ofModel) {
        Run.due(call + " of " + inputs, Run.told(ofProgram), Run.told(ofModel));
    }

    private void dueTable() {
        due("load()", program::load, model::load);
        due("columns()", program::columns, model::columns);
        for (int c = 0; c <= model.columns(); c++) {
            int column = c;
            due("type " + c, () -> program.type(column), () -> model.type(column));
            for (int r = 0; r < 3; r++) {
                int row = r;
                due("isMissing " + r + " " + c, () -> program.isMissing(row, column) ? 1 : 0,
                        () -> model.isMissing(row, column) ? 1 : 0);
                due("value " + r + " " + c, () -> program.value(row, column), () -> model.value(row, column));
            }
        }
        dueOut(false);
    }

    private void dueAnswer() {
        due("load()", program::load, model::load);
        due("ask()", program::ask, model::ask);
        due("fault()", program::fault, model::fault);
        due("lines()", program::lines, model::lines);
        for (int i = 0; i <= model.lines(); i++) {
            int k = i;
            due("line " + k, () -> program.line(k), () -> model.line(k));
            due("aggregate " + k, () -> program.aggregate(k), () -> model.aggregate(k));
        }
        dueOut(true);
    }

    private void dueOut(boolean answer) {
        due("write", () -> program.write(answer), () -> model.write(answer));
        for (int i = 0; i <= model.outLength(); i++) {
            int place = i;
            due("out " + i, () -> program.out(place), () -> model.out(place));
        }
    }
}
