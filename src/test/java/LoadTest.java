/** Promise 4: load. */
public final class LoadTest {
    private static final String ILLEGAL = "IllegalArgumentException";
    private static final String UNEVEN = "IllegalStateException";
    private static final String UNNAMED = "NoSuchElementException";
    private static final String TOO_MANY = "UnsupportedOperationException";

    public static void main(String[] args) {
        recordsAndTheirEnds();
        quotedFields();
        whatIsNotSplit();
        unevenRecords();
        names();
        tooManyRows();
        theFirstKindGoesFirst();
        whatALoadLeaves();
        textsBehindOneAnother();
        howManyRows();
        quotedFieldsThatAreNotEnded();
        quotationMarksWhereNoneMay();
        thirteenWithoutTen();
        whatStandsBehindAQuotedField();
        recordsWithNotAsManyFields();
        noHeaderAndNoNames();
        moreThanSixteenRows();
        eachPairOfKinds();
        tableAndAnswerStay();
        theAnswerGoes();
        Run.finish();
    }

    private static void due(String text, String want) {
        Run.due("load of [" + text + "]", new Run().load(text), want);
    }

    private static void dueTable(String text, String want) {
        Run run = new Run();
        run.load(text);
        Run.due("table of [" + text + "]", run.written(false), want);
    }

    private static void recordsAndTheirEnds() {
        due("a", "0");
        due("a\n", "0");
        due("a\r\n", "0");
        due("a\n\n", "1");
        due("a\n\r\n", "1");
        due("a\n1", "1");
        due("a\n1\n", "1");
        due("a\n1\r\n2\n3", "3");
        due("a\n\"\"", "1");
        due("a,b\n,", "1");
        due("a,b\n1,2\n,\n3,", "3");
        dueTable("a,b\r\n1,\r\n,2", "a,b\n1,\n,2\n");
        dueTable("a\n\n\n", "a\n\n\n");
        dueTable("a\n x \n", "a\n x \n");
        dueTable("a,b,c,d,e,f\n1,2,3,4,5,6", "a,b,c,d,e,f\n1,2,3,4,5,6\n");
    }

    private static void quotedFields() {
        due("\"a\"\n", "0");
        due("\"a\",\"b\"\r\n\"1\",\"2\"\r\n", "1");
        dueTable("a\n\"x,y\"", "a\n\"x,y\"\n");
        dueTable("a\n\"x\ny\"\n", "a\n\"x\ny\"\n");
        dueTable("a\n\"\r\"\n", "a\n\"\r\"\n");
        dueTable("a\n\"x\"\"y\"\n", "a\n\"x\"\"y\"\n");
        dueTable("a\n\"\"\"\"\n", "a\n\"\"\"\"\n");
        dueTable("a\n\"\"\"\"\"\"\n", "a\n\"\"\"\"\"\"\n");
        dueTable("a,b\n\"x\",y\n", "a,b\nx,y\n");
    }

    private static void whatIsNotSplit() {
        for (String text : new String[] {
            "\"", "a\n\"x", "a\n\"x\"\"", "a\n\"x\"\"\n", "a\"", "a\"b\"\n", "a\n1\"\n", "a\n \"x\"\n", "a\n\"x\"y",
            "a\n\"x\" \n", "a\n\"x\" \"y\"", "a\r", "a\rb", "a\r\r\n", "\r", "a\n\"x\"\r", "a\n\"x\"\ry", "a\n1\r",
            "a\n\"\"x\"\"\n"}) {
            due(text, ILLEGAL);
        }
    }

    private static void unevenRecords() {
        due("a,b\n1", UNEVEN);
        due("a,b\n1,2,3", UNEVEN);
        due("a,b\n1,2\n\n", UNEVEN);
        due("a\n1\n1,", UNEVEN);
        due("a,b,c,d,e,f,g", UNEVEN);
        due("a,b,c,d,e,f,g\n1,2,3,4,5,6,7\n", UNEVEN);
        due(",".repeat(240), UNEVEN);
        due("\n".repeat(239) + ",", UNEVEN);
    }

    private static void names() {
        due("", UNNAMED);
        due("\n", UNNAMED);
        due("\r\n", UNNAMED);
        due("\"\"", UNNAMED);
        due("a,", UNNAMED);
        due(",a\n", UNNAMED);
        for (String name : new String[] {"by", "where", "and", "or", "not", "is", "null", "order", "desc",
            "A", "aB", "a1", "1", " a", "a ", "a-b", "`", "{", "sevenle", "\"a\"\"b\"", "\"a\nb\"", "\"by\""}) {
            due(name + "\n1\n", UNNAMED);
            due("x," + name + "\n1,2\n", UNNAMED);
        }
        due("a,a", UNNAMED);
        due("a,b,\"a\"", UNNAMED);
        due("ab,abc,a,b", "0");
        due("sixlet,z", "0");
        due("rows,count,sum,least,most", "0");
        due("byy,b,wher,nulls,orde,descs", "0");
        dueTable("\"ab\",c", "ab,c\n");
    }

    private static void tooManyRows() {
        due("a" + "\n1".repeat(16), "16");
        due("a" + "\n1".repeat(16) + "\n", "16");
        due("a" + "\n".repeat(17), "16");
        due("a" + "\n1".repeat(17), TOO_MANY);
        due("a" + "\n".repeat(18), TOO_MANY);
        due("a" + "\n".repeat(239), TOO_MANY);
        due("a,b,c,d,e,f" + "\n,,,,,".repeat(16), "16");
        due("a,b,c,d,e,f" + "\n,,,,,".repeat(17), TOO_MANY);
    }

    private static void theFirstKindGoesFirst() {
        String many = "\n1".repeat(20);
        due("a,a\n1" + many + "\n\"", ILLEGAL);
        due("a,a\n1" + many, UNEVEN);
        due("a,b,c,d,e,f,F" + many, UNEVEN);
        due("A" + many, UNNAMED);
        due("\n\n,\"x\"y", ILLEGAL);
        due("A\n1,2", UNEVEN);
    }

    private static void howManyRows() {
        Run.sentence("Reads the text as the table: how many rows");
        for (int rows = 0; rows <= 16; rows++) {
            due("a\n" + "1\n".repeat(rows), Integer.toString(rows));
            due("a,b" + "\n,".repeat(rows), Integer.toString(rows));
        }
    }

    private static void quotedFieldsThatAreNotEnded() {
        Run.sentence("IllegalArgumentException when a quoted field is not ended");
        for (String text : new String[] {"\"", "\"a", "\"a\n1\n", "a\n\"", "a\n\"x", "a\n\"x\n", "a\n\"x\"\"",
            "a\n\"\"\"", "a\n\"\"\"\"\"", "a,b\n1,\"", "a,b\n1,\"x,y\n", "a\n\"" + "x".repeat(237)}) {
            due(text, ILLEGAL);
        }
        due("a\n\"\"", "1");
        due("a\n\"\"\"\"", "1");
    }

    private static void quotationMarksWhereNoneMay() {
        Run.sentence("or a quotation mark stands where none may");
        for (String text : new String[] {"a\"", "a\"\"", "a\"b\"", " \"a\"", "a\nx\"", "a\n1\"\n", "a\n \"x\"\n",
            "a,b\n1,x\"y\n", "a,b\n1, \"x\"", "a\n" + "x".repeat(237) + "\""}) {
            due(text, ILLEGAL);
        }
    }

    private static void thirteenWithoutTen() {
        Run.sentence("or a 13 without 10 behind it outside of quoted fields");
        for (String text : new String[] {"\r", "a\r", "a\rb", "a\r\r\n", "a\r\n\r", "a\n1\r", "a\n1\r2\n",
            "a\n\"x\"\r", "a\n\"x\"\ry", "a,b\n1,\r", "a,b\n\r,1", "a\n\r\r\n", "a\n" + "x".repeat(237) + "\r"}) {
            due(text, ILLEGAL);
        }
        due("a\n1\r\n", "1");
        due("a\n\"\r\"", "1");
        due("a\n\"\rx\r\"\r\n", "1");
    }

    private static void whatStandsBehindAQuotedField() {
        Run.sentence("or behind a quoted field there is something else than a comma or the record's end");
        for (char c = 32; c <= 126; c++) {
            due("a\n\"x\"" + c, c == ',' ? UNEVEN : ILLEGAL);
            due("a,b\n\"x\"" + c + "y", c == ',' ? "1" : ILLEGAL);
            due("\"a\"" + c + "b", c == ',' ? "0" : ILLEGAL);
        }
        due("a\n\"x\"", "1");
        due("a\n\"x\"\n", "1");
        due("a\n\"x\"\r\n", "1");
        due("a\n\"x\"\r", ILLEGAL);
    }

    private static void recordsWithNotAsManyFields() {
        Run.sentence("IllegalStateException when records have not as many fields, or more than six");
        due("a,b\n1", UNEVEN);
        due("a,b\n1,2,3", UNEVEN);
        due("a,b\n\n", UNEVEN);
        due("a,b\n1,2\n\n", UNEVEN);
        due("a\n,\n", UNEVEN);
        due("\n,", UNEVEN);
        due("a,b,c,d,e,f\n1,2,3,4,5,6,7", UNEVEN);
        due("a,b,c,d,e,f,g\n1,2,3,4,5,6", UNEVEN);
        due("a,b,c,d,e,f,g\n1,2,3,4,5,6,7", UNEVEN);
        due("a,b,c,d,e,f,g", UNEVEN);
        due("a,b,c,d,e,f\n1,2,3,4,5,6", "1");
    }

    private static void noHeaderAndNoNames() {
        Run.sentence("NoSuchElementException when there is no header, or a name is none, or there twice");
        for (String text : new String[] {"", "\n", "\r\n", "\n1", ",", "\"\"", "a,", ",a", "\"\",a", "A", "a b", "1",
            "a1", "sevenle", "null", "a,by", "a,a", "a,b,a", "a,\"a\""}) {
            due(text, UNNAMED);
        }
    }

    private static void moreThanSixteenRows() {
        Run.sentence("UnsupportedOperationException when there are more than 16 rows");
        due("a" + "\n1".repeat(16), "16");
        due("a" + "\n1".repeat(16) + "\n", "16");
        due("a" + "\n1".repeat(16) + "\n\n", TOO_MANY);
        due("a" + "\n1".repeat(17), TOO_MANY);
        due("a" + "\n1".repeat(119), TOO_MANY);
        due("a" + "\r\n".repeat(18), TOO_MANY);
    }

    /** Every choice of the four kinds in one text, that of each kind behind those of the later ones. */
    private static void eachPairOfKinds() {
        Run.sentence("(All of the text is looked at for the first kind before the second one, and so on.)");
        String[] wants = {ILLEGAL, UNEVEN, UNNAMED, TOO_MANY};
        for (String broken : new String[] {"\"", "x\"", "x\ry", "\"x\"y"}) {
            for (int kinds = 1; kinds < 16; kinds++) {
                String text = ((kinds & 4) != 0 ? "by" : "a") + "\n1".repeat((kinds & 8) != 0 ? 17 : 3)
                        + ((kinds & 2) != 0 ? "\n1,2" : "") + ((kinds & 1) != 0 ? "\n" + broken : "");
                due(text, wants[Integer.numberOfTrailingZeros(kinds)]);
            }
        }
        due("a,b,c,d,e,f,by" + "\n1".repeat(17), UNEVEN);
        due("a,b,c,d,e,f,a" + "\n1,2,3,4,5,6,7".repeat(16) + "\"", ILLEGAL);
        due("\n".repeat(18), UNNAMED);
        due("\n".repeat(18) + ",", UNEVEN);
        due("\n".repeat(239) + "\r", ILLEGAL);
    }

    private static void tableAndAnswerStay() {
        Run.sentence("(when it throws, table and answer stay)");
        String[] texts = {"\"", "b,c\n7", "by\n7", "b" + "\n7".repeat(17)};
        for (String question : new String[] {"rows where a=2", "sum(a) by a", "least(a)"}) {
            for (String text : texts) {
                Run run = Run.of("a\n1\n2\n");
                run.ask(question);
                String answer = run.written(true) + run.linesTold();
                run.load(text);
                Run.due("the table after [" + text + "]", run.written(false), "a\n1\n2\n");
                Run.due("type and value after [" + text + "]", run.type(0) + run.value(0, 0) + run.value(1, 0), "012");
                Run.due("columns after [" + text + "]", run.x.columns(), 1);
                Run.due("the answer after [" + text + "]", run.written(true) + run.linesTold(), answer);
                Run.due("ask after [" + text + "]", run.ask("rows where a=1") + run.line(0), "10");
            }
        }
    }

    private static void theAnswerGoes() {
        Run.sentence("The answer goes");
        for (String question : new String[] {"rows", "count", "rows where a=7"}) {
            Run run = Run.of("a\n1\n2\n");
            run.ask(question);
            Run.due("load of the same text", Run.told(run.x::load), "2");
            Run.due("lines", run.x.lines(), AskedTable.NONE);
            Run.due("line", run.line(0), UNEVEN);
            Run.due("aggregate", run.aggregate(0), UNEVEN);
            Run.due("write", run.written(true), UNEVEN);
        }
    }

    private static void textsBehindOneAnother() {
        Run run = new Run();
        Run.due("load of seven columns", run.load("a,b,c,d,e,f,g"), UNEVEN);
        Run.due("load of nothing behind it", run.load(""), UNNAMED);
        Run.due("load of a full text", run.load("a\n" + "x".repeat(238)), "1");
        Run.due("load of a full text", run.load("a\n\"" + "x".repeat(237)), ILLEGAL);
        Run.due("load of a full text", run.load("a\n" + "x".repeat(237) + "\r"), ILLEGAL);
        Run.due("load of a full text", run.load("a\n\"" + "x".repeat(236) + "\""), "1");
        Run.due("load of a full text", run.load("a\n" + "x".repeat(237) + ","), UNEVEN);
        Run.due("the table", run.written(false), "a\n" + "x".repeat(236) + "\n");
    }

    private static void whatALoadLeaves() {
        Run run = Run.of("a\n1\n2\n");
        run.ask("rows where a=2");
        for (String text : new String[] {"\"", "a,b\n1", "by", "b" + "\n1".repeat(17)}) {
            run.load(text);
            Run.due("the table after [" + text + "]", run.written(false), "a\n1\n2\n");
            Run.due("the answer after [" + text + "]", run.written(true), "a\n2\n");
            Run.due("type after [" + text + "]", run.x.type(0), 0);
        }
        Run.due("load", run.load("b,c\nx,y"), "1");
        Run.due("lines after a load", run.x.lines(), AskedTable.NONE);
        Run.due("the answer after a load", run.written(true), "IllegalStateException");
        Run.due("the table after a load", run.written(false), "b,c\nx,y\n");
        Run.due("a row that is no more", Run.told(() -> run.x.isMissing(1, 0) ? 1 : 0), "IndexOutOfBoundsException");
        run.ask("rows ?");
        run.load("a");
        Run.due("the fault after a load", run.x.fault(), 5);
    }
}
