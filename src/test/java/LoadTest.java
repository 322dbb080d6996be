/** Promise 4: load. */
public final class LoadTest {
    private static final String ILLEGAL = "IllegalArgumentException";
    private static final String UNEVEN = "IllegalStateException";
    private static final String UNNAMED = "NoSuchElementException";
    private static final String TOO_MANY = "UnsupportedOperationException";

    public static void main(String[] args) {
        recordsAndTheirEnds();
        quotedFields();
        whatIsNotSplit();
        unevenRecords();
        names();
        tooManyRows();
        theFirstKindGoesFirst();
        whatALoadLeaves();
        textsBehindOneAnother();
        Run.finish();
    }

    private static void due(String text, String want) {
        Run.due("load of [" + text + "]", new Run().load(text), want);
    }

    private static void dueTable(String text, String want) {
        Run run = new Run();
        run.load(text);
        Run.due("table of [" + text + "]", run.written(false), want);
    }

    private static void recordsAndTheirEnds() {
        due("a", "0");
        due("a\n", "0");
        due("a\r\n", "0");
        due("a\n\n", "1");
        due("a\n\r\n", "1");
        due("a\n1", "1");
        due("a\n1\n", "1");
        due("a\n1\r\n2\n3", "3");
        due("a\n\"\"", "1");
        due("a,b\n,", "1");
        due("a,b\n1,2\n,\n3,", "3");
        dueTable("a,b\r\n1,\r\n,2", "a,b\n1,\n,2\n");
        dueTable("a\n\n\n", "a\n\n\n");
        dueTable("a\n x \n", "a\n x \n");
        dueTable("a,b,c,d,e,f\n1,2,3,4,5,6", "a,b,c,d,e,f\n1,2,3,4,5,6\n");
    }

    private static void quotedFields() {
        due("\"a\"\n", "0");
        due("\"a\",\"b\"\r\n\"1\",\"2\"\r\n", "1");
        dueTable("a\n\"x,y\"", "a\n\"x,y\"\n");
        dueTable("a\n\"x\ny\"\n", "a\n\"x\ny\"\n");
        dueTable("a\n\"\r\"\n", "a\n\"\r\"\n");
        dueTable("a\n\"x\"\"y\"\n", "a\n\"x\"\"y\"\n");
        dueTable("a\n\"\"\"\"\n", "a\n\"\"\"\"\n");
        dueTable("a\n\"\"\"\"\"\"\n", "a\n\"\"\"\"\"\"\n");
        dueTable("a,b\n\"x\",y\n", "a,b\nx,y\n");
    }

    private static void whatIsNotSplit() {
        for (String text : new String[] {
            "\"", "a\n\"x", "a\n\"x\"\"", "a\n\"x\"\"\n", "a\"", "a\"b\"\n", "a\n1\"\n", "a\n \"x\"\n", "a\n\"x\"y",
            "a\n\"x\" \n", "a\n\"x\" \"y\"", "a\r", "a\rb", "a\r\r\n", "\r", "a\n\"x\"\r", "a\n\"x\"\ry", "a\n1\r",
            "a\n\"\"x\"\"\n"}) {
            due(text, ILLEGAL);
        }
    }

    private static void unevenRecords() {
        due("a,b\n1", UNEVEN);
        due("a,b\n1,2,3", UNEVEN);
        due("a,b\n1,2\n\n", UNEVEN);
        due("a\n1\n1,", UNEVEN);
        due("a,b,c,d,e,f,g", UNEVEN);
        due("a,b,c,d,e,f,g\n1,2,3,4,5,6,7\n", UNEVEN);
        due(",".repeat(240), UNEVEN);
        due("\n".repeat(239) + ",", UNEVEN);
    }

    private static void names() {
        due("", UNNAMED);
        due("\n", UNNAMED);
        due("\r\n", UNNAMED);
        due("\"\"", UNNAMED);
        due("a,", UNNAMED);
        due(",a\n", UNNAMED);
        for (String name : new String[] {"by", "where", "and", "or", "not", "is", "null", "order", "desc",
            "A", "aB", "a1", "1", " a", "a ", "a-b", "`", "{", "sevenle", "\"a\"\"b\"", "\"a\nb\"", "\"by\""}) {
            due(name + "\n1\n", UNNAMED);
            due("x," + name + "\n1,2\n", UNNAMED);
        }
        due("a,a", UNNAMED);
        due("a,b,\"a\"", UNNAMED);
        due("ab,abc,a,b", "0");
        due("sixlet,z", "0");
        due("rows,count,sum,least,most", "0");
        due("byy,b,wher,nulls,orde,descs", "0");
        dueTable("\"ab\",c", "ab,c\n");
    }

    private static void tooManyRows() {
        due("a" + "\n1".repeat(16), "16");
        due("a" + "\n1".repeat(16) + "\n", "16");
        due("a" + "\n".repeat(17), "16");
        due("a" + "\n1".repeat(17), TOO_MANY);
        due("a" + "\n".repeat(18), TOO_MANY);
        due("a" + "\n".repeat(239), TOO_MANY);
        due("a,b,c,d,e,f" + "\n,,,,,".repeat(16), "16");
        due("a,b,c,d,e,f" + "\n,,,,,".repeat(17), TOO_MANY);
    }

    private static void theFirstKindGoesFirst() {
        String many = "\n1".repeat(20);
        due("a,a\n1" + many + "\n\"", ILLEGAL);
        due("a,a\n1" + many, UNEVEN);
        due("a,b,c,d,e,f,F" + many, UNEVEN);
        due("A" + many, UNNAMED);
        due("\n\n,\"x\"y", ILLEGAL);
        due("A\n1,2", UNEVEN);
    }

    private static void textsBehindOneAnother() {
        Run run = new Run();
        Run.due("load of seven columns", run.load("a,b,c,d,e,f,g"), UNEVEN);
        Run.due("load of nothing behind it", run.load(""), UNNAMED);
        for (int i = 0; i < 5; i++) {
            Run.due("load of a full text", run.load("a\n" + "x".repeat(238)), "1");
            Run.due("load of a full text", run.load("a\n\"" + "x".repeat(237)), ILLEGAL);
            Run.due("load of a full text", run.load("a\n" + "x".repeat(237) + "\r"), ILLEGAL);
            Run.due("load of a full text", run.load("a\n\"" + "x".repeat(236) + "\""), "1");
            Run.due("load of a full text", run.load("a\n" + "x".repeat(237) + ","), UNEVEN);
        }
        Run.due("the table", run.written(false), "a\n" + "x".repeat(236) + "\n");
    }

    private static void whatALoadLeaves() {
        Run run = Run.of("a\n1\n2\n");
        run.ask("rows where a=2");
        for (String text : new String[] {"\"", "a,b\n1", "by", "b" + "\n1".repeat(17)}) {
            run.load(text);
            Run.due("the table after [" + text + "]", run.written(false), "a\n1\n2\n");
            Run.due("the answer after [" + text + "]", run.written(true), "a\n2\n");
            Run.due("type after [" + text + "]", run.x.type(0), 0);
        }
        Run.due("load", run.load("b,c\nx,y"), "1");
        Run.due("lines after a load", run.x.lines(), AskedTable.NONE);
        Run.due("the answer after a load", run.written(true), "IllegalStateException");
        Run.due("the table after a load", run.written(false), "b,c\nx,y\n");
        Run.due("a row that is no more", Run.told(() -> run.x.isMissing(1, 0) ? 1 : 0), "IndexOutOfBoundsException");
        run.ask("rows ?");
        run.load("a");
        Run.due("the fault after a load", run.x.fault(), 5);
    }
}
