/** Promise 13, and 12 for lines: aggregates, with and without by. */
public final class AggregateTest {
    private static final String TABLE = "n,m,d,t\n"
            + "1,5000000000,2020-02-29,x\n"
            + ",1,2019-12-31,\"\"\n"
            + "-3,,,xy\n"
            + "1,-3,2020-02-29,\n"
            + "2,2,2021-01-01,x\n";
    private static final String OF_TEXT = "IllegalStateException";
    private static final String MISSING = "NoSuchElementException";

    public static void main(String[] args) {
        withoutBy();
        withBy();
        whatIsMissing();
        wrongCalls();
        aggregatesOfLines();
        noAnswer();
        answersOfRows();
        leastOrMostOfTexts();
        noSuchLine();
        missingAggregates();
        Run.finish();
    }

    /** What is due: the rows in each line, then the aggregate of each. */
    private static void due(Run run, String question, String rows, String aggregates) {
        String count = run.ask(question);
        Run.due("rows in the lines of [" + question + "]", run.linesTold(), rows);
        Run.due("aggregates of [" + question + "]", run.aggregatesTold(), aggregates);
        Run.due("lines of [" + question + "]", Integer.toString(run.x.lines()), count);
    }

    private static void withoutBy() {
        Run run = Run.of(TABLE);
        due(run, "count", "5", "5");
        due(run, "count where n=1", "2", "2");
        due(run, "count where n=7", "0", "0");
        due(run, "sum(n)", "5", "1");
        due(run, "sum(m)", "5", "5000000000");
        due(run, "sum(n) where n>0", "3", "4");
        due(run, "least(n)", "5", "-3");
        due(run, "most(n)", "5", "2");
        due(run, "least(m)", "5", "-3");
        due(run, "most(m)", "5", "5000000000");
        due(run, "least(d)", "5", "20191231");
        due(run, "most(d)", "5", "20210101");
        due(run, "most(d) where t='x' and n<2", "1", "20200229");
    }

    private static void withBy() {
        Run run = Run.of(TABLE);
        due(run, "count by n", "1 1 2 1", "1 1 2 1");
        due(run, "sum(m) by n", "1 1 2 1", "1 " + MISSING + " 4999999997 2");
        due(run, "least(m) by n", "1 1 2 1", "1 " + MISSING + " -3 2");
        due(run, "most(m) by n where n>0", "2 1", "5000000000 2");
        due(run, "count by d", "1 1 2 1", "1 1 2 1");
        due(run, "count by t", "1 1 2 1", "1 1 2 1");
        due(run, "sum(n) by t", "1 1 2 1", "1 " + MISSING + " 3 -3");
        due(run, "sum(n) by n", "1 1 2 1", MISSING + " -3 2 2");
        due(run, "count by t where t is null", "1", "1");
        due(run, "count by n where n=7", "", "");
        due(run, "sum(n) by n where n=7", "", "");
        due(Run.of("a\n\"1\"\n1\nx\n\"x\"\n\"\"\n\n"), "count by a", "1 1 2 2", "1 1 2 2");
        due(Run.of("a\n2\n1\n10\n-1\n"), "most(a) by a", "1 1 1 1", "-1 1 2 10");
        due(Run.of("a" + "\n1\n2".repeat(8)), "sum(a) by a", "8 8", "8 16");
        due(Run.of("a\n1\n2\n3\n4\n5\n6\n7\n8\n9\n10\n11\n12\n13\n14\n15\n16"), "sum(a) by a", "1" + " 1".repeat(15),
                "1 2 3 4 5 6 7 8 9 10 11 12 13 14 15 16");
    }

    private static void whatIsMissing() {
        Run run = Run.of(TABLE);
        due(run, "sum(n) where n is null", "1", MISSING);
        due(run, "least(d) where d is null", "1", MISSING);
        due(run, "most(m) where n=7", "0", MISSING);
        due(run, "sum(m) where n=7", "0", MISSING);
        due(Run.of("a"), "sum(a)", "0", MISSING);
        due(Run.of("a\n\n\n"), "most(a)", "2", MISSING);
        due(Run.of("a\n0\n"), "sum(a)", "1", "0");
        due(Run.of("a\n5\n-5\n"), "sum(a)", "2", "0");
        due(Run.of("a\n-9223372036854775808\n"), "sum(a)", "1", "-9223372036854775808");
    }

    private static void aggregatesOfLines() {
        Run.sentence("The aggregate of line k, as a value");
        Run run = Run.of("g,v,d\n1,5,2020-02-29\n2,7,0001-01-01\n1,-9,9999-12-31\n");
        due(run, "count by g", "2 1", "2 1");
        due(run, "sum(v) by g", "2 1", "-4 7");
        due(run, "least(v) by g", "2 1", "-9 7");
        due(run, "most(v) by g", "2 1", "5 7");
        due(run, "least(d) by g", "2 1", "20200229 10101");
        due(run, "most(d)", "3", "99991231");
        due(Run.of("a\n9223372036854775807\n"), "sum(a)", "1", "9223372036854775807");
        due(Run.of("a\n-9223372036854775808\n"), "least(a)", "1", "-9223372036854775808");
    }

    private static void dueEverywhere(Run run, String what, String want) {
        for (int k : new int[] {Integer.MIN_VALUE, -1, 0, 1, 15, 16, Integer.MAX_VALUE}) {
            Run.due("aggregate " + k + " of " + what, run.aggregate(k), want);
        }
    }

    private static void noAnswer() {
        Run.sentence("IllegalStateException when there is no answer");
        Run run = new Run();
        dueEverywhere(run, "a new object", OF_TEXT);
        run.load("a\n1\n");
        dueEverywhere(run, "a table alone", OF_TEXT);
        run.ask("count");
        Run.due("aggregate 0", run.aggregate(0), "1");
        run.x.load();
        dueEverywhere(run, "an answer that a load took", OF_TEXT);
        run.ask("count");
        run.ask("count by");
        dueEverywhere(run, "no question", OF_TEXT);
    }

    private static void answersOfRows() {
        Run.sentence("or it is one of rows");
        Run run = Run.of(TABLE);
        for (String question : new String[] {"rows", "rows where n=1 order n", "rows where n=7"}) {
            run.ask("count by n");
            run.ask(question);
            dueEverywhere(run, question, OF_TEXT);
        }
    }

    private static void leastOrMostOfTexts() {
        Run.sentence("or of least or most of a TEXT");
        Run run = Run.of(TABLE);
        for (String question : new String[] {"least(t)", "most(t) by n", "least(t) where t is null",
            "most(t) where n=7", "most(t) by n where n=7", "least(t) by t"}) {
            run.ask(question);
            dueEverywhere(run, question, OF_TEXT);
        }
        due(run, "count by t where t='x'", "2", "2");
        due(run, "sum(n) by t where t='x'", "2", "3");
        due(run, "least(d) by t where t='x'", "2", "20200229");
    }

    private static void noSuchLine() {
        Run.sentence("IndexOutOfBoundsException when it has no such line");
        String[][] questions = {{"count", "1"}, {"count by n", "4"}, {"sum(n)", "1"}, {"least(m) by n", "4"},
            {"most(d) by t", "4"}, {"count by n where n=7", "0"}, {"sum(n) by n where n=7", "0"},
            {"sum(n) where n=7", "1"}, {"most(n) where n is null", "1"}};
        for (String[] question : questions) {
            Run run = Run.of(TABLE);
            int lines = Integer.parseInt(run.ask(question[0]));
            Run.due("lines of " + question[0], lines, Integer.parseInt(question[1]));
            for (int k : new int[] {Integer.MIN_VALUE, -1, lines, lines + 1, 15, 16, Integer.MAX_VALUE}) {
                Run.due("aggregate " + k + " of " + question[0], run.aggregate(k), "IndexOutOfBoundsException");
            }
            Run.due("the last line of " + question[0],
                    lines == 0 || !run.aggregate(lines - 1).equals("IndexOutOfBoundsException"), true);
        }
    }

    private static void missingAggregates() {
        Run.sentence("NoSuchElementException when it is missing");
        Run run = Run.of("g,v\n1,\n1,\n2,0\n,\n");
        due(run, "sum(v)", "4", "0");
        due(run, "sum(v) by g", "1 2 1", MISSING + " " + MISSING + " 0");
        due(run, "least(v) by g", "1 2 1", MISSING + " " + MISSING + " 0");
        due(run, "most(v) by g", "1 2 1", MISSING + " " + MISSING + " 0");
        due(run, "count by g", "1 2 1", "1 2 1");
        due(run, "sum(v) where g=1", "2", MISSING);
        due(run, "most(v) where g=7", "0", MISSING);
        due(run, "count where g=7", "0", "0");
    }

    private static void wrongCalls() {
        Run run = Run.of(TABLE);
        Run.due("no answer", Run.told(() -> run.x.aggregate(0)), OF_TEXT);
        run.ask("rows");
        Run.due("an answer of rows", Run.told(() -> run.x.aggregate(0)), OF_TEXT);
        Run.due("no line of an answer of rows", Run.told(() -> run.x.aggregate(-1)), OF_TEXT);
        for (String question : new String[] {"least(t)", "most(t)", "least(t) by n", "most(t) where t is null"}) {
            run.ask(question);
            Run.due("a text of " + question, Run.told(() -> run.x.aggregate(0)), OF_TEXT);
            Run.due("no line of " + question, Run.told(() -> run.x.aggregate(9)), OF_TEXT);
        }
        run.ask("count by t");
        Run.due("a count by a text", Run.told(() -> run.x.aggregate(0)), "1");
        run.ask("sum(n) where n is null");
        for (int k : new int[] {-1, 1, 16, Integer.MIN_VALUE, Integer.MAX_VALUE}) {
            Run.due("aggregate " + k, Run.told(() -> run.x.aggregate(k)), "IndexOutOfBoundsException");
            Run.due("line " + k, Run.told(() -> run.x.line(k)), "IndexOutOfBoundsException");
        }
        run.ask("sum(");
        Run.due("an answer that went", Run.told(() -> run.x.aggregate(0)), OF_TEXT);
    }
}
