/** Promise 13, and 12 for lines: aggregates, with and without by. */
public final class AggregateTest {
    private static final String TABLE = "n,m,d,t\n"
            + "1,5000000000,2020-02-29,x\n"
            + ",1,2019-12-31,\"\"\n"
            + "-3,,,xy\n"
            + "1,-3,2020-02-29,\n"
            + "2,2,2021-01-01,x\n";
    private static final String OF_TEXT = "IllegalStateException";
    private static final String MISSING = "NoSuchElementException";

    public static void main(String[] args) {
        withoutBy();
        withBy();
        whatIsMissing();
        wrongCalls();
        Run.finish();
    }

    /** What is due: the rows in each line, then the aggregate of each. */
    private static void due(Run run, String question, String rows, String aggregates) {
        String count = run.ask(question);
        Run.due("rows in the lines of [" + question + "]", run.linesTold(), rows);
        Run.due("aggregates of [" + question + "]", run.aggregatesTold(), aggregates);
        Run.due("lines of [" + question + "]", Integer.toString(run.x.lines()), count);
    }

    private static void withoutBy() {
        Run run = Run.of(TABLE);
        due(run, "count", "5", "5");
        due(run, "count where n=1", "2", "2");
        due(run, "count where n=7", "0", "0");
        due(run, "sum(n)", "5", "1");
        due(run, "sum(m)", "5", "5000000000");
        due(run, "sum(n) where n>0", "3", "4");
        due(run, "least(n)", "5", "-3");
        due(run, "most(n)", "5", "2");
        due(run, "least(m)", "5", "-3");
        due(run, "most(m)", "5", "5000000000");
        due(run, "least(d)", "5", "20191231");
        due(run, "most(d)", "5", "20210101");
        due(run, "most(d) where t='x' and n<2", "1", "20200229");
    }

    private static void withBy() {
        Run run = Run.of(TABLE);
        due(run, "count by n", "1 1 2 1", "1 1 2 1");
        due(run, "sum(m) by n", "1 1 2 1", "1 " + MISSING + " 4999999997 2");
        due(run, "least(m) by n", "1 1 2 1", "1 " + MISSING + " -3 2");
        due(run, "most(m) by n where n>0", "2 1", "5000000000 2");
        due(run, "count by d", "1 1 2 1", "1 1 2 1");
        due(run, "count by t", "1 1 2 1", "1 1 2 1");
        due(run, "sum(n) by t", "1 1 2 1", "1 " + MISSING + " 3 -3");
        due(run, "sum(n) by n", "1 1 2 1", MISSING + " -3 2 2");
        due(run, "count by t where t is null", "1", "1");
        due(run, "count by n where n=7", "", "");
        due(run, "sum(n) by n where n=7", "", "");
        due(Run.of("a\n\"1\"\n1\nx\n\"x\"\n\"\"\n\n"), "count by a", "1 1 2 2", "1 1 2 2");
        due(Run.of("a\n2\n1\n10\n-1\n"), "most(a) by a", "1 1 1 1", "-1 1 2 10");
        due(Run.of("a" + "\n1\n2".repeat(8)), "sum(a) by a", "8 8", "8 16");
        due(Run.of("a\n1\n2\n3\n4\n5\n6\n7\n8\n9\n10\n11\n12\n13\n14\n15\n16"), "sum(a) by a", "1" + " 1".repeat(15),
                "1 2 3 4 5 6 7 8 9 10 11 12 13 14 15 16");
    }

    private static void whatIsMissing() {
        Run run = Run.of(TABLE);
        due(run, "sum(n) where n is null", "1", MISSING);
        due(run, "least(d) where d is null", "1", MISSING);
        due(run, "most(m) where n=7", "0", MISSING);
        due(run, "sum(m) where n=7", "0", MISSING);
        due(Run.of("a"), "sum(a)", "0", MISSING);
        due(Run.of("a\n\n\n"), "most(a)", "2", MISSING);
        due(Run.of("a\n0\n"), "sum(a)", "1", "0");
        due(Run.of("a\n5\n-5\n"), "sum(a)", "2", "0");
        due(Run.of("a\n-9223372036854775808\n"), "sum(a)", "1", "-9223372036854775808");
    }

    private static void wrongCalls() {
        Run run = Run.of(TABLE);
        Run.due("no answer", Run.told(() -> run.x.aggregate(0)), OF_TEXT);
        run.ask("rows");
        Run.due("an answer of rows", Run.told(() -> run.x.aggregate(0)), OF_TEXT);
        Run.due("no line of an answer of rows", Run.told(() -> run.x.aggregate(-1)), OF_TEXT);
        for (String question : new String[] {"least(t)", "most(t)", "least(t) by n", "most(t) where t is null"}) {
            run.ask(question);
            Run.due("a text of " + question, Run.told(() -> run.x.aggregate(0)), OF_TEXT);
            Run.due("no line of " + question, Run.told(() -> run.x.aggregate(9)), OF_TEXT);
        }
        run.ask("count by t");
        Run.due("a count by a text", Run.told(() -> run.x.aggregate(0)), "1");
        run.ask("sum(n) where n is null");
        for (int k : new int[] {-1, 1, 16, Integer.MIN_VALUE, Integer.MAX_VALUE}) {
            Run.due("aggregate " + k, Run.told(() -> run.x.aggregate(k)), "IndexOutOfBoundsException");
            Run.due("line " + k, Run.told(() -> run.x.line(k)), "IndexOutOfBoundsException");
        }
        run.ask("sum(");
        Run.due("an answer that went", Run.told(() -> run.x.aggregate(0)), OF_TEXT);
    }
}
