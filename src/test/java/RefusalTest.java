import java.util.function.Function;
import java.util.function.LongSupplier;

/**
 * Calls that answer false or throw: they change nothing but what is said. Each is made on one of two objects with the
 * same calls behind them, and then all that can be seen of both must be alike.
 */
public final class RefusalTest {
    private static final String NO_STATE = "IllegalStateException";
    private static final String NO_INDEX = "IndexOutOfBoundsException";
    private static final String MISSING = "NoSuchElementException";
    private static final int LEAST = Integer.MIN_VALUE;
    private static final int GREATEST = Integer.MAX_VALUE;

    private static final String TABLE = "n,t\n1,x\n,\"\"\n3,\n";
    private static final String FULL = "n,t\n" + "1,x\n".repeat(15) + "2," + "y".repeat(174);

    /** What calls are made on, and the text and question that it has. */
    private enum State {
        NEW("", ""),
        ONLY_INPUTS("a\n1\n", "rows"),
        TABLE_ALONE(TABLE, "rows"),
        ROWS_WRITTEN(TABLE, "rows where n>0 order n desc"),
        LINES_AND_OTHER_INPUTS("a,b,c\n1,2,3\n", "count by c"),
        TEXT_AGGREGATE(TABLE, "most(t)"),
        FAULT_TOLD(TABLE, "rows where t=1"),
        FULL_INPUTS(FULL, "rows where n=2" + " ".repeat(82));

        final String text;
        final String question;

        State(String text, String question) {
            this.text = text;
            this.question = question;
        }

        Run made() {
            Run run = new Run();
            if (this == LINES_AND_OTHER_INPUTS) {
                run.load(TABLE);
                run.ask("sum(n) by t");
                run.x.write(false);
            }
            run.put(false, text);
            run.put(true, question);
            if (this != NEW && this != ONLY_INPUTS && this != LINES_AND_OTHER_INPUTS) {
                run.x.load();
            }
            if (this == ROWS_WRITTEN || this == TEXT_AGGREGATE || this == FULL_INPUTS) {
                run.x.ask();
                run.x.write(true);
            }
            if (this == FAULT_TOLD) {
                run.x.write(false);
                Run.told(run.x::ask);
            }
            return run;
        }
    }

    public static void main(String[] args) {
        refusedPuts();
        refusedCuts();
        wrongPlaces();
        whatIsNotThere();
        valuesThatAreNone();
        loadsThatThrow();
        asksThatThrow();
        theFirstNamed();
        Run.finish();
    }

    /** The call must answer this, and leave no trace in any of the states. */
    private static void dueTraceless(String what, Function<AskedTable, Object> call, String want, State... states) {
        for (State state : states) {
            Run called = state.made();
            Run.due(what + " when " + state, told(call, called.x), want);
            Run other = state.made();
            Run.due("all that is seen after " + what + " when " + state, seen(called, state), seen(other, state));
        }
    }

    private static String told(Function<AskedTable, Object> call, AskedTable x) {
        try {
            return call.apply(x).toString();
        } catch (RuntimeException thrown) {
            return thrown.getClass().getSimpleName();
        }
    }

    private static String seen(Run run, State state) {
        return seenAnswer(run) + seenTable(run) + seenInputs(run, state.text, state.question);
    }

    private static String seenAnswer(Run run) {
        String seen = "fault " + run.x.fault() + " lines " + run.x.lines();
        for (int k = -1; k < 4; k++) {
            seen += " line " + run.line(k) + " aggregate " + run.aggregate(k);
        }
        return seen;
    }

    private static String seenTable(Run run) {
        String seen = " columns " + run.x.columns();
        for (int column = -1; column <= 2; column++) {
            seen += " type " + run.type(column);
            for (int row = -1; row <= 3; row++) {
                seen += " cell " + run.missing(row, column) + " " + run.value(row, column);
            }
        }
        return seen + " OUT" + seenOut(run, GREATEST);
    }

    /** So many of OUT's first characters, and where it ends, if it does before. */
    private static String seenOut(Run run, int most) {
        String seen = "";
        for (int i = 0; i < most && !seen.endsWith(NO_INDEX); i++) {
            int place = i;
            seen += " " + Run.told(() -> run.x.out(place));
        }
        return seen;
    }

    /** Seen last, as what there is is read by load() and ask(), which make a new table and answer. */
    private static String seenInputs(Run run, String text, String question) {
        String seen = " inputs";
        seen += run.x.cut(false, text.length() + 1) + " " + run.x.cut(false, text.length());
        seen += run.x.cut(true, question.length() + 1) + " " + run.x.cut(true, question.length());
        seen += " load " + Run.told(run.x::load) + " write " + Run.told(() -> run.x.write(false)) + seenOut(run, 80);
        return seen + " ask " + Run.told(run.x::ask) + " write " + Run.told(() -> run.x.write(true)) + seenOut(run, 80);
    }

    private static void refusedPuts() {
        Run.sentence("False, changing nothing, when n is not 1 .. 8, there would be more than it may have, or one is"
                + " not as said");
        for (boolean question : new boolean[] {false, true}) {
            for (int n : new int[] {0, -1, 9, 64, LEAST, GREATEST}) {
                dueTraceless("put of " + n, x -> x.put(question, Run.word("aaaaaaaa"), n), "false", State.values());
            }
            dueTraceless("put of a wrong last one", x -> x.put(question, Run.word("abc\u007f"), 4), "false",
                    State.values());
            dueTraceless("put of a wrong first one", x -> x.put(question, Run.word("\tabc"), 4), "false",
                    State.values());
            dueTraceless("put of one too many", x -> x.put(question, 'a', 1), "false", State.FULL_INPUTS);
            dueTraceless("put of eight too many", x -> x.put(question, Run.word("aaaaaaaa"), 8), "false",
                    State.FULL_INPUTS);
        }
        dueTraceless("put of 10 into the question", x -> x.put(true, '\n', 1), "false", State.values());
        dueTraceless("put of 13 into the question", x -> x.put(true, '\r', 1), "false", State.values());
    }

    private static void refusedCuts() {
        Run.sentence("False, changing nothing, when n is negative, or it has not so many");
        for (State state : State.values()) {
            for (int n : new int[] {-1, LEAST, GREATEST, 241, state.text.length() + 1}) {
                dueTraceless("cut of the text to " + n, x -> x.cut(false, n), "false", state);
            }
            for (int n : new int[] {-1, LEAST, GREATEST, 97, state.question.length() + 1}) {
                dueTraceless("cut of the question to " + n, x -> x.cut(true, n), "false", state);
            }
            int all = state.text.length();
            dueTraceless("cut of the text to all that it has", x -> x.cut(false, all), "true", state);
            int whole = state.question.length();
            dueTraceless("cut of the question to all that it has", x -> x.cut(true, whole), "true", state);
        }
    }

    private static void wrongPlaces() {
        Run.sentence("A call that throws changes nothing but what is said");
        for (int wrong : new int[] {-1, 16, LEAST, GREATEST}) {
            dueTraceless("type " + wrong, x -> x.type(wrong), NO_INDEX, State.values());
            dueTraceless("isMissing of row " + wrong, x -> x.isMissing(wrong, 0), NO_INDEX, State.values());
            dueTraceless("isMissing of column " + wrong, x -> x.isMissing(0, wrong), NO_INDEX, State.values());
            dueTraceless("value of row " + wrong, x -> x.value(wrong, 0), NO_INDEX, State.values());
            dueTraceless("value of column " + wrong, x -> x.value(0, wrong), NO_INDEX, State.values());
            dueTraceless("line " + wrong, x -> x.line(wrong), NO_INDEX,
                    State.ROWS_WRITTEN, State.LINES_AND_OTHER_INPUTS, State.TEXT_AGGREGATE, State.FULL_INPUTS);
            dueTraceless("aggregate " + wrong, x -> x.aggregate(wrong), NO_INDEX, State.LINES_AND_OTHER_INPUTS);
        }
        for (int wrong : new int[] {-1, 768, LEAST, GREATEST}) {
            dueTraceless("out " + wrong, x -> x.out(wrong), NO_INDEX, State.values());
        }
    }

    private static void whatIsNotThere() {
        Run.sentence("A call that throws changes nothing but what is said");
        dueTraceless("load without a text", x -> x.load(), MISSING, State.NEW);
        dueTraceless("ask without a table", x -> x.ask(), NO_STATE, State.NEW, State.ONLY_INPUTS);
        dueTraceless("write without a table", x -> x.write(false), NO_STATE, State.NEW, State.ONLY_INPUTS);
        State[] unanswered = {State.NEW, State.ONLY_INPUTS, State.TABLE_ALONE, State.FAULT_TOLD};
        dueTraceless("write without an answer", x -> x.write(true), NO_STATE, unanswered);
        dueTraceless("line without an answer", x -> x.line(0), NO_STATE, unanswered);
        dueTraceless("aggregate without an answer", x -> x.aggregate(0), NO_STATE, unanswered);
        dueTraceless("aggregate of rows", x -> x.aggregate(0), NO_STATE, State.ROWS_WRITTEN, State.FULL_INPUTS);
        dueTraceless("aggregate of a text", x -> x.aggregate(0), NO_STATE, State.TEXT_AGGREGATE);
        dueTraceless("out of an empty OUT", x -> x.out(0), NO_INDEX, State.NEW, State.ONLY_INPUTS, State.TABLE_ALONE);
    }

    private static void valuesThatAreNone() {
        Run.sentence("A call that throws changes nothing but what is said");
        State[] loaded = {State.TABLE_ALONE, State.ROWS_WRITTEN, State.LINES_AND_OTHER_INPUTS, State.FAULT_TOLD};
        dueTraceless("value of a text", x -> x.value(0, 1), NO_STATE, loaded);
        dueTraceless("value of a missing text", x -> x.value(2, 1), NO_STATE, loaded);
        dueTraceless("value of a missing number", x -> x.value(1, 0), MISSING, loaded);
        dueTraceless("aggregate that is missing", x -> x.aggregate(1), MISSING, State.LINES_AND_OTHER_INPUTS);
    }

    /** The answer of a call, then all that is seen of table, answer, OUT, fault and inputs. */
    private static void dueAlike(String what, LongSupplier call, String want, Run called, Run other, String text,
            String question) {
        Run.due(what, Run.told(call), want);
        Run.due("answer and fault after " + what, seenAnswer(called), seenAnswer(other));
        Run.due("table and OUT after " + what, seenTable(called), seenTable(other));
        Run.due("inputs after " + what, seenInputs(called, text, question), seenInputs(other, text, question));
    }

    private static void loadsThatThrow() {
        Run.sentence("The answer goes (when it throws, table and answer stay)");
        String[][] texts = {{"a\n\"x", "IllegalArgumentException"}, {"a\nx\"", "IllegalArgumentException"},
            {"a\nx\r", "IllegalArgumentException"}, {"a\n\"x\"y", "IllegalArgumentException"}, {"a,b\n1", NO_STATE},
            {"a,b,c,d,e,f,g", NO_STATE}, {"", MISSING}, {"by\n1", MISSING}, {"a,a\n5,6", MISSING},
            {"a" + "\n7".repeat(17), "UnsupportedOperationException"}};
        for (State state : State.values()) {
            for (String[] text : texts) {
                Run called = state.made();
                Run other = state.made();
                called.put(false, text[0]);
                other.put(false, text[0]);
                dueAlike("load of [" + text[0] + "] when " + state, called.x::load, text[1], called, other, text[0],
                        state.question);
            }
        }
    }

    private static void asksThatThrow() {
        Run.sentence("(With an exception there is no answer any more.)");
        String none = "";
        for (int k = -1; k < 4; k++) {
            none += " line " + NO_STATE + " aggregate " + NO_STATE;
        }
        String beyond = "n,t\n9223372036854775807,x\n1,\n-1,y\n";
        String[][] questions = {{"", "IllegalArgumentException", "0"},
            {"sum(t)", "IllegalArgumentException", "4"}, {"sum(n)", "UnsupportedOperationException", "-1"},
            {"sum(n) where t is null or n<>1 or", "IllegalArgumentException", "33"},
            {"sum(n) where t is null or n>1", "UnsupportedOperationException", "-1"}};
        for (String before : new String[] {"rows order n", "count by t", "most(t)", "?", ""}) {
            for (String[] question : questions) {
                Run called = Run.of(beyond);
                called.ask(before);
                called.x.write(false);
                String table = seenTable(called);
                Run.due("ask of [" + question[0] + "]", called.ask(question[0]), question[1]);
                Run.due("after [" + question[0] + "]", seenAnswer(called),
                        "fault " + question[2] + " lines -1" + none);
                Run.due("write of the answer", Run.told(() -> called.x.write(true)), NO_STATE);
                Run.due("the table after [" + question[0] + "]", seenTable(called), table);
                Run fresh = Run.of(beyond);
                fresh.put(true, question[0]);
                Run.due("inputs after [" + question[0] + "]", seenInputs(called, beyond, question[0]),
                        seenInputs(fresh, beyond, question[0]));
            }
        }
    }

    private static void theFirstNamed() {
        Run.sentence("where several exceptions that a call names fit, it is the one that it names first");
        Run run = new Run();
        Run.due("ask of none without a table", run.ask("?"), NO_STATE);
        Run.due("line -1 without an answer", run.line(-1), NO_STATE);
        Run.due("aggregate -1 without an answer", run.aggregate(-1), NO_STATE);
        run.load("n,t\n9223372036854775807,x\n1,\n,y\n");
        Run.due("value of no row of texts", run.value(3, 1), NO_INDEX);
        Run.due("value of no row below", run.value(-1, 1), NO_INDEX);
        Run.due("value of a missing text", run.value(1, 1), NO_STATE);
        Run.due("a sum beyond that is no question", run.ask("sum(n) order"), "IllegalArgumentException");
        Run.due("line 3 without an answer", run.line(3), NO_STATE);
        run.ask("rows");
        Run.due("aggregate -1 of rows", run.aggregate(-1), NO_STATE);
        Run.due("aggregate 3 of rows", run.aggregate(3), NO_STATE);
        run.ask("least(t) where t is null");
        Run.due("aggregate 0 of a missing text", run.aggregate(0), NO_STATE);
        Run.due("aggregate 1 of a text", run.aggregate(1), NO_STATE);
        run.ask("least(n) where n is null");
        Run.due("aggregate 0 of a missing number", run.aggregate(0), MISSING);
        Run.due("aggregate 1 of a missing number", run.aggregate(1), NO_INDEX);
        Run.due("aggregate -1 of a missing number", run.aggregate(-1), NO_INDEX);
    }
}
