/** Promises 14 and 15: write and out. */
public final class WriteTest {
    public static void main(String[] args) {
        tables();
        textsThatNeedMarks();
        answersOfRows();
        aggregates();
        whatIsWrittenIsATable();
        whatIsNotThere();
        theLengthOfOut();
        nothingToWrite();
        emptyAnswers();
        outBeforeAWrite();
        charactersOfOut();
        outStaysUntilTheNextWrite();
        Run.finish();
    }

    private static void due(String text, String want) {
        Run.due("table of [" + text + "]", Run.of(text).written(false), want);
    }

    private static void due(Run run, String question, String want) {
        run.ask(question);
        Run.due("answer of [" + question + "]", run.written(true), want);
    }

    private static void tables() {
        due("a", "a\n");
        due("a,b\r\n1,x\r\n,\r\n", "a,b\n1,x\n,\n");
        due("a\n\n", "a\n\n");
        due("a,b,c\n-2147483648,9223372036854775807,0001-01-01", "a,b,c\n-2147483648,9223372036854775807,0001-01-01\n");
        due("\"rows\",\"b\"\n1,\"x\"", "rows,b\n1,x\n");
    }

    private static void textsThatNeedMarks() {
        String[][] cells = {
            {"\"\"", "\"\""}, {"\"a,b\"", "\"a,b\""}, {"\"a\"\"b\"", "\"a\"\"b\""}, {"\"\"\"\"", "\"\"\"\""},
            {"\"a\nb\"", "\"a\nb\""}, {"\"a\rb\"", "\"a\rb\""}, {"\"1\"", "\"1\""}, {"1", "\"1\""}, {"-5", "\"-5\""},
            {"0", "\"0\""}, {"9223372036854775807", "\"9223372036854775807\""}, {"2020-02-29", "\"2020-02-29\""},
            {"\"x\"", "x"}, {"\" \"", " "}, {" 1", " 1"}, {"\"01\"", "01"}, {"\"-0\"", "-0"},
            {"\"9223372036854775808\"", "9223372036854775808"}, {"\"2019-02-29\"", "2019-02-29"}, {"'", "'"}, {"", ""},
        };
        for (String[] cell : cells) {
            due("a,b\nx," + cell[0] + "\ny,text", "a,b\nx," + cell[1] + "\ny,text\n");
        }
    }

    private static void answersOfRows() {
        Run run = Run.of("a,b\n1,\"p,q\"\n,5\n3,x\n");
        due(run, "rows", "a,b\n1,\"p,q\"\n,\"5\"\n3,x\n");
        due(run, "rows order a desc", "a,b\n3,x\n1,\"p,q\"\n,\"5\"\n");
        due(run, "rows where b='x'", "a,b\n3,x\n");
        due(run, "rows where a=7", "a,b\n");
    }

    private static void aggregates() {
        Run run = Run.of("a,b,c\n1,\"5\",2020-02-29\n,x,\n-3,,0001-01-01\n1,x,2019-12-31\n");
        due(run, "count", "count\n4\n");
        due(run, "sum(a)", "sum\n-1\n");
        due(run, "least(c)", "least\n0001-01-01\n");
        due(run, "most(c)", "most\n2020-02-29\n");
        due(run, "least(b)", "least\n\"5\"\n");
        due(run, "most(b)", "most\nx\n");
        due(run, "sum(a) where a=7", "sum\n\n");
        due(run, "most(b) where b is null", "most\n\n");
        due(run, "count by a", "a,count\n,1\n-3,1\n1,2\n");
        due(run, "count by b", "b,count\n,1\n\"5\",1\nx,2\n");
        due(run, "count by c", "c,count\n,1\n0001-01-01,1\n2019-12-31,1\n2020-02-29,1\n");
        due(run, "sum(a) by b", "b,sum\n,-3\n\"5\",1\nx,1\n");
        due(run, "most(b) by a", "a,most\n,x\n-3,\n1,x\n");
        due(run, "least(a) by a", "a,least\n,\n-3,-3\n1,1\n");
        due(run, "count by a where a=7", "a,count\n");
        due(Run.of("sum\n4\n"), "sum(sum)by sum", "sum,sum\n4,4\n");
        due(Run.of("a\n-9223372036854775807\n-1\n"), "sum(a)", "sum\n-9223372036854775808\n");
        due(Run.of("a\n9223372036854775806\n1\n"), "sum(a)", "sum\n9223372036854775807\n");
        due(Run.of("a\n99\n1\n"), "sum(a)", "sum\n100\n");
        due(Run.of("a\n1\n-1\n"), "sum(a)", "sum\n0\n");
        due(Run.of("a" + "\n1".repeat(10)), "count", "count\n10\n");
    }

    private static void whatIsWrittenIsATable() {
        String written = Run.of("a,b\r\n\"1\",2\r\n,\"\"\r\n\"x\"\"\",5").written(false);
        due(written, written);
    }

    private static void dueLength(Run run, boolean answer, String want) {
        Run.due("length", Run.told(() -> run.x.write(answer)), Integer.toString(want.length()));
        Run.due("OUT", run.out(want.length()), want);
    }

    private static void theLengthOfOut() {
        Run.sentence("WRITES the table, or the answer: the length of OUT");
        dueLength(Run.of("a"), false, "a\n");
        dueLength(Run.of("a\n1"), false, "a\n1\n");
        dueLength(Run.of("\"a\"\r\n\"x\"\r\n"), false, "a\nx\n");
        Run run = Run.of("a,b\n1,x\n2,\n");
        run.ask("rows where a=2");
        dueLength(run, false, "a,b\n1,x\n2,\n");
        dueLength(run, true, "a,b\n2,\n");
        run.ask("most(b) by a");
        dueLength(run, true, "a,most\n1,x\n2,\n");
        dueLength(run, false, "a,b\n1,x\n2,\n");
        dueLength(run, true, "a,most\n1,x\n2,\n");
    }

    private static void nothingToWrite() {
        Run.sentence("IllegalStateException when there is none");
        Run run = new Run();
        Run.due("no table", run.written(false), "IllegalStateException");
        Run.due("no answer", run.written(true), "IllegalStateException");
        run.load("a,b\n1");
        Run.due("no table after a load that throws", run.written(false), "IllegalStateException");
        run.load("a\n1");
        Run.due("no answer of a table", run.written(true), "IllegalStateException");
        Run.due("the table", run.written(false), "a\n1\n");
        run.ask("rows");
        Run.due("the answer", run.written(true), "a\n1\n");
        run.ask("rows where");
        Run.due("no answer after no question", run.written(true), "IllegalStateException");
        run.ask("rows");
        run.x.load();
        Run.due("no answer after a load", run.written(true), "IllegalStateException");
    }

    private static void emptyAnswers() {
        Run.sentence("for each row or line its cells with commas between; 10");
        Run run = Run.of("a,b\n1,x\n");
        due(run, "rows where a=7", "a,b\n");
        due(run, "count by a where a=7", "a,count\n");
        due(run, "most(b) by b where a=7", "b,most\n");
        due(run, "count where a=7", "count\n0\n");
        due(run, "sum(a) where a=7", "sum\n\n");
        due(run, "least(b) where a=7", "least\n\n");
        due(Run.of("a,b"), "rows", "a,b\n");
        due(Run.of("a,b"), "count by b", "b,count\n");
    }

    private static void dueNowhere(Run run, int... places) {
        for (int i : places) {
            Run.due("out " + i, Run.told(() -> run.x.out(i)), "IndexOutOfBoundsException");
        }
    }

    private static void outBeforeAWrite() {
        Run.sentence("OUT is empty");
        Run run = new Run();
        dueNowhere(run, Integer.MIN_VALUE, -1, 0, 1, Integer.MAX_VALUE);
        run.written(false);
        run.load("a\n1");
        run.ask("rows");
        dueNowhere(run, Integer.MIN_VALUE, -1, 0, 1, Integer.MAX_VALUE);
    }

    private static void charactersOfOut() {
        Run.sentence("Character i of OUT. IndexOutOfBoundsException when there is none");
        Run run = Run.of("a,b\n1,\"~\n\r\"\n");
        String want = "a,b\n1,\"~\n\r\"\n";
        run.x.write(false);
        for (int i = 0; i < want.length(); i++) {
            int place = i;
            Run.due("out " + i, Run.told(() -> run.x.out(place)), Integer.toString(want.charAt(i)));
        }
        int length = want.length();
        Run.due("the last character", run.x.out(length - 1), 10);
        dueNowhere(run, Integer.MIN_VALUE, -length, -1, length, length + 1, 240, 767, 768, Integer.MAX_VALUE);
    }

    private static void outStaysUntilTheNextWrite() {
        Run.sentence("TO WRITE a table or answer is to put into OUT");
        Run run = Run.of("a\n1\n2\n");
        run.x.write(false);
        run.ask("count");
        run.load("b");
        Run.due("OUT after ask and load", run.out(6), "a\n1\n2\n");
        run.written(true);
        Run.due("OUT after a write that throws", run.out(6), "a\n1\n2\n");
        run.x.write(false);
        Run.due("OUT of a shorter one", run.out(2), "b\n");
        dueNowhere(run, 2, 3, 4, 5, 6);
    }

    private static void whatIsNotThere() {
        Run run = Run.of("a\n1\n");
        Run.due("OUT before a write", run.out(0), "");
        Run.due("no answer", run.written(true), "IllegalStateException");
        run.written(false);
        Run.due("no answer", run.written(true), "IllegalStateException");
        Run.due("OUT after a write that throws", run.out(4), "a\n1\n");
        run.ask("count");
        run.load("b");
        Run.due("OUT after ask and load", run.out(4), "a\n1\n");
        Run.due("a shorter one", Run.told(() -> run.x.write(false)), "2");
        Run.due("OUT is the shorter one", run.out(2), "b\n");
        for (int i : new int[] {-1, 2, 3, Integer.MIN_VALUE, Integer.MAX_VALUE}) {
            Run.due("out of " + i, Run.told(() -> run.x.out(i)), "IndexOutOfBoundsException");
        }
        Run.due("write without a table", new Run().written(false), "IllegalStateException");
    }
}
