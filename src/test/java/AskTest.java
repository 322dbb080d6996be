/** Promises 9, 11 and 12: ask, lines and line, with the conditions and the order of rows. */
public final class AskTest {
    private static final String TABLE = "n,m,d,t\n"
            + "1,5000000000,2020-02-29,x\n"
            + ",1,2019-12-31,\"\"\n"
            + "-3,,,xy\n"
            + "1,-3,2020-02-29,\n"
            + "2,2,2021-01-01,\"b,c\"\n";

    public static void main(String[] args) {
        comparisons();
        texts();
        unknown();
        notAndOr();
        sixteenRows();
        order();
        tokens();
        names();
        wrongCalls();
        sumsBeyond();
        whatAnAskLeaves();
        noTable();
        howManyRowsOrLines();
        noQuestion();
        sumsAtTheEnds();
        sumsOnTheWay();
        noAnswerAnyMore();
        linesWithoutAnAnswer();
        linesOfAnEmptyAnswer();
        theLastLineAndOneBehind();
        Run.finish();
    }

    private static void due(Run run, String question, String want) {
        String count = run.ask(question);
        Run.due("rows of [" + question + "]", count.matches("\\d+") ? run.linesTold() : count, want);
        if (count.matches("\\d+")) {
            Run.due("lines() of [" + question + "]", Integer.toString(run.x.lines()), count);
            Run.due("fault() of [" + question + "]", run.x.fault(), AskedTable.NONE);
        }
    }

    private static void comparisons() {
        Run run = Run.of(TABLE);
        due(run, "rows", "0 1 2 3 4");
        due(run, "rows where n=1", "0 3");
        due(run, "rows where n<>1", "2 4");
        due(run, "rows where n<1", "2");
        due(run, "rows where n<=1", "0 2 3");
        due(run, "rows where n>1", "4");
        due(run, "rows where n>=1", "0 3 4");
        due(run, "rows where n=-3", "2");
        due(run, "rows where n<9223372036854775807", "0 2 3 4");
        due(run, "rows where n>-9223372036854775808", "0 2 3 4");
        due(run, "rows where m=5000000000", "0");
        due(run, "rows where n<m", "0");
        due(run, "rows where m<=n", "3 4");
        due(run, "rows where n=m", "4");
        due(run, "rows where n=n", "0 2 3 4");
        due(run, "rows where n<>n", "");
        due(run, "rows where d=2020-02-29", "0 3");
        due(run, "rows where d<2020-02-29", "1");
        due(run, "rows where d>=2020-02-29", "0 3 4");
        due(run, "rows where n is null", "1");
        due(run, "rows where t is null", "3");
        due(run, "rows where not t is null", "0 1 2 4");
    }

    private static void texts() {
        Run run = Run.of(TABLE);
        due(run, "rows where t='x'", "0");
        due(run, "rows where t=''", "1");
        due(run, "rows where t<>''", "0 2 4");
        due(run, "rows where t>'x'", "2");
        due(run, "rows where t>='x'", "0 2");
        due(run, "rows where t<'x'", "1 4");
        due(run, "rows where t<'xyz'", "0 1 2 4");
        due(run, "rows where t='b,c'", "4");
        due(run, "rows where t=t", "0 1 2 4");
        Run other = Run.of("a,b\n\"1\",1\n10,\"9\"\n\"a\"\"\",A\n~,~\n");
        due(other, "rows where a='1'", "0");
        due(other, "rows where a=b", "0 3");
        due(other, "rows where a<b", "1");
        due(other, "rows where a='a\"'", "2");
        due(other, "rows order a", "0 1 2 3");
        due(other, "rows order b", "0 1 2 3");
        due(Run.of("z,a\nx,x\nz,z\n"), "rows where z<'xy' and a<'xy'", "0");
    }

    private static void unknown() {
        Run run = Run.of(TABLE);
        due(run, "rows where not n=1", "2 4");
        due(run, "rows where not not n=1", "0 3");
        due(run, "rows where n=1 or not n=1", "0 2 3 4");
        due(run, "rows where n=1 or n is null", "0 1 3");
        due(run, "rows where not(n=1 and m=1)", "0 2 3 4");
        due(run, "rows where not(n=1 or m=1)", "4");
        due(run, "rows where not(n=1 and t is null)", "0 1 2 4");
        due(run, "rows where not(n<>1 or n is null)", "0 3");
        due(run, "rows where not m<0", "0 1 4");
        due(run, "rows where not n<m", "3 4");
    }

    private static void notAndOr() {
        Run run = Run.of(TABLE);
        due(run, "rows where n=1 and m<0 or n=2", "3 4");
        due(run, "rows where n=2 or n=1 and m<0", "3 4");
        due(run, "rows where (n=2 or n=1) and m<0", "3");
        due(run, "rows where n=1 and (m<0 or n=2)", "3");
        due(run, "rows where not n=1 and m=2", "4");
        due(run, "rows where not (n=1 and m<0) and n=1", "0");
        due(run, "rows where n=1 or n=2 or n=-3", "0 2 3 4");
        due(run, "rows where n>0 and n<3 and m>0 and m<3", "4");
        due(run, "rows where ((((((((n=1))))))))", "0 3");
        due(run, "rows where not not not not not not not not n=1", "0 3");
        due(run, "rows where (not(not(not(not(n=1)))))", "IllegalArgumentException");
        due(run, "rows where (not(not(not not(n=1))))", "0 3");
        due(run, "rows where ((n=1))and((n=1))and not(not(n=1))", "0 3");
    }

    private static void sixteenRows() {
        String numbers = "0 1 2 3 4 5 6 7 8 9 10 11 12 13 14 15";
        for (String text : new String[] {"a" + "\n5".repeat(16), "a,b,c,d,e,f" + "\n5,,5,,5,5".repeat(16)}) {
            Run run = Run.of(text);
            due(run, "rows", numbers);
            due(run, "rows where a is null", "");
            due(run, "rows where not a is null", numbers);
            due(run, "rows where a=5", numbers);
            due(run, "rows where a<>5", "");
            due(run, "rows where not a<>5 and a=a", numbers);
            due(run, "rows where a<a or not a=a", "");
            due(run, "count by a", "16");
        }
        due(Run.of("a" + "\n1".repeat(15) + "\n2"), "rows where a=2", "15");
        due(Run.of("a" + "\n1".repeat(15) + "\n2"), "rows where not a=1", "15");
        due(Run.of("a\n2" + "\n1".repeat(15)), "rows where not a=1", "0");
        due(Run.of("a\n2" + "\n1".repeat(14) + "\n"), "rows where a=a and not a>1", "1 2 3 4 5 6 7 8 9 10 11 12 13 14");
    }

    private static void order() {
        Run run = Run.of(TABLE);
        due(run, "rows order n", "1 2 0 3 4");
        due(run, "rows order n desc", "4 0 3 2 1");
        due(run, "rows order m", "2 3 1 4 0");
        due(run, "rows order m desc", "0 4 1 3 2");
        due(run, "rows order d", "2 1 0 3 4");
        due(run, "rows order d desc", "4 0 3 1 2");
        due(run, "rows order t", "3 1 4 0 2");
        due(run, "rows order t desc", "2 0 4 1 3");
        due(run, "rows where n>0 order m desc", "0 4 3");
        due(run, "rows where n is null and n=1 order n", "");
        due(Run.of("a\n\n\n\n"), "rows order a desc", "0 1 2");
        due(Run.of("a" + "\n1\n\n0".repeat(5) + "\n"), "rows order a desc", "0 3 6 9 12 2 5 8 11 14 1 4 7 10 13");
        due(Run.of("a\nb\n\"\n\"\n \n"), "rows order a", "1 2 0");
    }

    private static void tokens() {
        Run run = Run.of(TABLE);
        due(run, "   rows   where   n  =  1   ", "0 3");
        due(run, "rows where(n=1)and(m<0)order n desc", "3");
        due(run, "rows where n=1or n=2order n", "0 3 4");
        due(run, "rows where t='x'or t='xy'order t desc", "2 0");
        due(run, "rows where n<-2", "2");
        due(run, "rows where n<>-3and n>=-3", "0 3 4");
        due(run, "rowswhere n=1", "IllegalArgumentException");
        due(run, "rows where n< =1", "IllegalArgumentException");
        due(run, "rows where n<>-3 and t='order n desc'", "");
        due(run, "  count  ", "5");
    }

    private static void names() {
        Run run = Run.of("rows,count,sum,least,most,sixlet\n1,2,3,4,5,6\n6,5,4,3,2,1\n");
        due(run, "rows where rows=1", "0");
        due(run, "rows where count>sum and least<=least order most", "1");
        due(run, "rows order rows desc", "1 0");
        due(run, "rows where sixlet=6", "0");
        due(run, "sum(sum)by count where rows<>most", "1 1");
        due(run, "count by sixlet", "1 1");
        due(Run.of("az,za\n1,2\n2,1\n"), "rows where az<za and za=2", "0");
    }

    private static void wrongCalls() {
        Run run = Run.of(TABLE);
        for (String question : new String[] {"", " ", "row", "rows rows", "rows where", "rows where n",
        "rows where q=1",
            "rows where n=q", "rows where n='1'", "rows where t=1", "rows where d=1", "rows where n=2020-01-01",
            "rows where n=d", "rows where d=t", "rows where 1=n", "rows where n is not null", "rows where n=null",
            "rows order", "rows order q", "rows desc", "rows by n", "rows order n where n=1",
            "rows order n desc desc",
            "count order n", "count where n=1 by n", "count by", "count(n)", "sum n", "sum(t)", "sum(d)", "sum(q)",
            "least()", "most(n", "ROWS", "rows;", "rows where n=9223372036854775808", "rows where n==1",
            "rows where d=2019-02-29", "rows where n=1-1", "rows where t='x", "rows where t=\"x\"",
            "rows where (n=1"}) {
            run.ask("rows");
            due(run, question, "IllegalArgumentException");
            Run.due("lines() of [" + question + "]", run.x.lines(), AskedTable.NONE);
            Run.due("line(0) of [" + question + "]", Run.told(() -> run.x.line(0)), "IllegalStateException");
            Run.due("the answer of [" + question + "]", run.written(true), "IllegalStateException");
        }
        run.ask("rows where n=1");
        for (int k : new int[] {-1, 2, 16, Integer.MIN_VALUE, Integer.MAX_VALUE}) {
            Run.due("line " + k, Run.told(() -> run.x.line(k)), "IndexOutOfBoundsException");
        }
        run.ask("rows where n=7");
        Run.due("line 0 of no rows", Run.told(() -> run.x.line(0)), "IndexOutOfBoundsException");
        Run empty = new Run();
        Run.due("ask without a table", empty.ask("sum("), "IllegalStateException");
    }

    private static void sumsBeyond() {
        String beyond = "UnsupportedOperationException";
        Run run = Run.of("a,g\n9223372036854775807,1\n1,2\n-5,1\n-9223372036854775808,2\n,2\n");
        due(run, "sum(a)", beyond);
        Run.due("fault of a sum beyond", run.x.fault(), AskedTable.NONE);
        Run.due("lines of a sum beyond", run.x.lines(), AskedTable.NONE);
        due(run, "sum(a) where a>1 or a<-5", "2");
        due(run, "sum(a) by g", "2 3");
        due(run, "sum(a) where a<0", beyond);
        due(run, "sum(a) where a<-5 or a is null", "2");
        due(run, "sum(q)", "IllegalArgumentException");
        due(run, "sum(a) by g where q=1", "IllegalArgumentException");
        due(Run.of("a\n9223372036854775807\n1\n-1\n"), "sum(a)", beyond);
        due(Run.of("a\n9223372036854775807\n-1\n1\n"), "sum(a)", "3");
        due(Run.of("a,g\n9223372036854775807,2\n5,1\n1,2\n"), "sum(a) by g", beyond);
    }

    private static final String LEAST = "-9223372036854775808";
    private static final String GREATEST = "9223372036854775807";
    private static final String BEYOND = "UnsupportedOperationException";

    private static void noTable() {
        Run.sentence("IllegalStateException when there is no table");
        for (String question : new String[] {"", "rows", "count", "?", "sum("}) {
            Run run = new Run();
            Run.due("ask of [" + question + "]", run.ask(question), "IllegalStateException");
            Run.due("load of no table", run.load("a,b\n1"), "IllegalStateException");
            Run.due("ask of [" + question + "]", run.ask(question), "IllegalStateException");
            Run.due("load of a table without rows", run.load("a"), "0");
            boolean asks = question.equals("rows") || question.equals("count");
            Run.due("ask of [" + question + "] of it", run.ask(question),
                    !asks ? "IllegalArgumentException" : question.equals("rows") ? "0" : "1");
        }
    }

    private static void howManyRowsOrLines() {
        Run.sentence("Asks the question: how many rows or lines the answer has");
        for (int rows = 0; rows <= 16; rows++) {
            StringBuilder text = new StringBuilder("a");
            for (int row = 0; row < rows; row++) {
                text.append('\n').append(row);
            }
            Run run = Run.of(text.toString());
            Run.due("rows of " + rows, run.ask("rows") + " " + run.x.lines(), rows + " " + rows);
            Run.due("lines of " + rows, run.ask("count by a") + " " + run.x.lines(), rows + " " + rows);
            Run.due("one line of " + rows, run.ask("count") + " " + run.x.lines(), "1 1");
        }
    }

    private static void noQuestion() {
        Run.sentence("IllegalArgumentException when it is no question (a name that is none, things that can't be"
                + " compared, too): FAULT is told then");
        String[][] questions = {{"", "0"}, {"row", "0"}, {"rows where", "10"}, {"rows where n=1 2", "15"},
            {"rows where q=1", "11"}, {"rows order q", "11"}, {"count by q", "9"}, {"most(q)", "5"},
            {"rows where n=q", "13"}, {"rows where n='x'", "13"}, {"rows where n=d", "13"}, {"rows where t=1", "13"},
            {"rows where d=1", "13"}, {"rows where m=t", "13"}, {"sum(t)", "4"}, {"sum(d)", "4"}};
        for (String[] question : questions) {
            Run run = Run.of(TABLE);
            Run.due("ask of [" + question[0] + "]", run.ask(question[0]), "IllegalArgumentException");
            Run.due("fault of [" + question[0] + "]", Integer.toString(run.x.fault()), question[1]);
        }
    }

    private static void dueSum(String want, String... cells) {
        Run run = Run.of("a\n" + String.join("\n", cells) + "\n");
        String count = run.ask("sum(a)");
        Run.due("sum of " + String.join(" ", cells), count.equals("1") ? run.aggregate(0) : count, want);
        Run.due("fault of it", run.x.fault(), AskedTable.NONE);
        Run.due("lines of it", run.x.lines(), count.equals("1") ? 1 : AskedTable.NONE);
    }

    private static void sumsAtTheEnds() {
        Run.sentence("UnsupportedOperationException when a sum, or one on the way in the order of the rows, is not from"
                + " -2^63 to 2^63 - 1");
        dueSum(GREATEST, GREATEST);
        dueSum(GREATEST, GREATEST, "0");
        dueSum(GREATEST, "9223372036854775806", "1");
        dueSum(GREATEST, "1", "9223372036854775806");
        dueSum(GREATEST, "4611686018427387904", "4611686018427387903");
        dueSum(BEYOND, GREATEST, "1");
        dueSum(BEYOND, "1", GREATEST);
        dueSum(BEYOND, "4611686018427387904", "4611686018427387904");
        dueSum(BEYOND, GREATEST, GREATEST);
        dueSum(LEAST, LEAST);
        dueSum(LEAST, LEAST, "0");
        dueSum(LEAST, "-9223372036854775807", "-1");
        dueSum(LEAST, "-1", "-9223372036854775807");
        dueSum(LEAST, "-4611686018427387904", "-4611686018427387904");
        dueSum(BEYOND, LEAST, "-1");
        dueSum(BEYOND, "-1", LEAST);
        dueSum(BEYOND, "-4611686018427387904", "-4611686018427387905");
        dueSum(BEYOND, LEAST, LEAST);
        dueSum("-1", LEAST, GREATEST);
        dueSum("-1", GREATEST, LEAST);
    }

    private static void sumsOnTheWay() {
        Run.sentence("or one on the way in the order of the rows");
        dueSum(BEYOND, GREATEST, "1", "-1");
        dueSum(GREATEST, GREATEST, "-1", "1");
        dueSum(GREATEST, "-1", GREATEST, "1");
        dueSum(BEYOND, LEAST, "-1", "1");
        dueSum(LEAST, LEAST, "1", "-1");
        dueSum(BEYOND, GREATEST, GREATEST, LEAST, LEAST);
        dueSum("-2", GREATEST, LEAST, GREATEST, LEAST);
        dueSum(BEYOND, GREATEST, "", "1", "", LEAST);
        dueSum(GREATEST, "", GREATEST, "");
        String table = "a,g\n" + GREATEST + ",2\n1,1\n-1,2\n1,2\n" + LEAST + ",1\n-1,\n";
        due(Run.of(table), "sum(a)", BEYOND);
        due(Run.of(table), "sum(a) by g", "1 2 3");
        due(Run.of(table), "sum(a) where g=2", "3");
        due(Run.of(table), "sum(a) where a>0", BEYOND);
        due(Run.of(table), "sum(a) by g where a<0", "1 1 1");
        due(Run.of(table), "sum(a) where a<0", BEYOND);
        due(Run.of(table), "sum(a) by g where a>0", BEYOND);
        due(Run.of("a,g\n1,1\n" + GREATEST + ",2\n2,1\n1,2\n"), "sum(a) by g", BEYOND);
        due(Run.of("a,g\n1,2\n" + LEAST + ",1\n2,2\n-1,1\n"), "sum(a) by g", BEYOND);
        due(Run.of("a\n" + GREATEST + "\n1\n"), "most(a)", "2");
        due(Run.of("a\n" + GREATEST + "\n1\n"), "sum(a) where a is null", "0");
    }

    private static void noAnswerAnyMore() {
        Run.sentence("(With an exception there is no answer any more.)");
        for (String before : new String[] {"rows", "count by a", "least(a)"}) {
            for (String question : new String[] {"sum(a)", "rows where", ""}) {
                Run run = Run.of("a\n" + GREATEST + "\n1\n");
                run.ask(before);
                Run.due("ask of [" + question + "]", run.ask(question),
                        question.equals("sum(a)") ? BEYOND : "IllegalArgumentException");
                Run.due("lines", run.x.lines(), AskedTable.NONE);
                Run.due("line 0", run.line(0), "IllegalStateException");
                Run.due("aggregate 0", run.aggregate(0), "IllegalStateException");
                Run.due("the answer", run.written(true), "IllegalStateException");
                Run.due("the table", run.written(false), "a\n" + GREATEST + "\n1\n");
                Run.due("the next question", run.ask("rows"), "2");
            }
        }
    }

    private static void linesWithoutAnAnswer() {
        Run.sentence("How many rows or lines the answer has; NONE when there is none");
        Run run = new Run();
        Run.due("lines of a new object", run.x.lines(), AskedTable.NONE);
        run.load("a\n1\n");
        Run.due("lines before a question", run.x.lines(), AskedTable.NONE);
        run.put(true, "rows");
        Run.due("lines before the ask", run.x.lines(), AskedTable.NONE);
        run.x.ask();
        Run.due("lines of an answer", run.x.lines(), 1);
        run.ask("rows where a=2");
        Run.due("lines of an empty answer", run.x.lines(), 0);
        run.ask("rows where a=");
        Run.due("lines after no question", run.x.lines(), AskedTable.NONE);
        Run.sentence("IllegalStateException when there is no answer");
        for (int k : new int[] {-1, 0, 1, Integer.MIN_VALUE, Integer.MAX_VALUE}) {
            Run.due("line " + k, run.line(k), "IllegalStateException");
        }
    }

    private static void linesOfAnEmptyAnswer() {
        Run.sentence("IndexOutOfBoundsException when it has no such row or line");
        for (String question : new String[] {"rows where a=7", "rows where a=7 order a desc", "count by a where a=7",
            "most(a) by a where a=7"}) {
            Run run = Run.of("a\n1\n2\n");
            run.ask("rows");
            Run.due("ask of [" + question + "]", run.ask(question), "0");
            Run.due("lines of [" + question + "]", run.x.lines(), 0);
            for (int k : new int[] {-1, 0, 1, Integer.MIN_VALUE, Integer.MAX_VALUE}) {
                Run.due("line " + k + " of [" + question + "]", run.line(k), "IndexOutOfBoundsException");
            }
        }
    }

    private static void theLastLineAndOneBehind() {
        Run.sentence("Of an answer of rows: the number of row k of it. Of an aggregate: how many rows were chosen for"
                + " line k");
        String[][] questions = {{"rows", "0", "2"}, {"rows order a desc", "1", "2"}, {"rows where a=1", "0", "2"},
            {"count by a", "2", "1"}, {"sum(a) by a", "2", "1"}, {"most(a) by a where a>0", "2", "1"},
            {"count", "3", "3"}, {"count where a=7", "0", "0"}, {"least(a) where a=2", "1", "1"}};
        for (String[] question : questions) {
            Run run = Run.of("a\n1\n2\n1\n");
            int lines = Integer.parseInt(run.ask(question[0]));
            Run.due("the first of [" + question[0] + "]", run.line(0), question[1]);
            Run.due("the last of [" + question[0] + "]", run.line(lines - 1), question[2]);
            for (int k : new int[] {-1, lines, 16, Integer.MIN_VALUE, Integer.MAX_VALUE}) {
                Run.due("line " + k + " of [" + question[0] + "]", run.line(k), "IndexOutOfBoundsException");
            }
        }
        Run sixteen = Run.of("a" + "\n1".repeat(16));
        sixteen.ask("rows");
        Run.due("the last of sixteen", sixteen.line(15) + sixteen.line(16), "15IndexOutOfBoundsException");
    }

    private static void whatAnAskLeaves() {
        Run run = Run.of("a\n1\n2\n");
        run.ask("rows where a=2");
        run.put(true, "count");
        run.put(false, "b\n1");
        Run.due("the answer when inputs change", run.x.lines() + " " + run.x.line(0), "1 1");
        Run.due("the table's own", run.written(true), "a\n2\n");
        run.ask("rows ?");
        Run.due("the table after no question", run.written(false), "a\n1\n2\n");
        Run.due("OUT after no question", run.out(6), "a\n1\n2\n");
    }
}
