/** "Terms", what they say of answers and of writing: each sentence on its own. */
public final class TermsAnswerTest {
    private static final String MISSING = "NoSuchElementException";

    /** 240 characters, and of them as many cells as can be that come out with two marks more. */
    private static final String LONGEST_TABLE = "a,b,c,d,e,f\nx,x,x,x,x,x\n" + "1,1,1,1,1,1\n".repeat(14)
            + "1,1,1,10,1000000000000000000,1000000000000000000";
    private static final String MARKED_ROWS = "\"1\",\"1\",\"1\",\"1\",\"1\",\"1\"\n".repeat(14)
            + "\"1\",\"1\",\"1\",\"10\",\"1000000000000000000\",\"1000000000000000000\"\n";
    private static final String LONGEST_WRITTEN = "a,b,c,d,e,f\nx,x,x,x,x,x\n" + MARKED_ROWS;
    private static final String LONGEST_TURNED = "a,b,c,d,e,f\n" + MARKED_ROWS + "x,x,x,x,x,x\n";

    public static void main(String[] args) {
        rowsInTheirOrder();
        leastFirst();
        greatestFirst();
        missingOnesFirst();
        equalOnes();
        allColumns();
        counts();
        sums();
        leastAndMost();
        missingAggregates();
        linesOfGroups();
        missingGroup();
        rowsOfGroups();
        columnsOfAggregates();
        namesAndRows();
        missingCellsWritten();
        valuesWritten();
        textsWritten();
        textsThatNeedMarks();
        numbersAndDatesAsTexts();
        roomForTables();
        roomForRows();
        roomForLines();
        Run.finish();
    }

    private static void dueRows(String text, String question, String want) {
        Run run = Run.of(text);
        String count = run.ask(question);
        Run.due("[" + question + "]", count.matches("\\d+") ? run.linesTold() : count, want);
    }

    /** What is due: how many rows each line has, and its aggregate. */
    private static void dueLines(String text, String question, String rows, String aggregates) {
        Run run = Run.of(text);
        run.ask(question);
        Run.due("rows of [" + question + "]", run.linesTold(), rows);
        Run.due("aggregates of [" + question + "]", run.aggregatesTold(), aggregates);
    }

    private static void dueWritten(String text, String question, String want) {
        Run run = Run.of(text);
        run.ask(question);
        Run.due("[" + question + "] written", run.written(true), want);
    }

    private static void dueTable(String text, String want) {
        Run.due("table of [" + text + "]", Run.of(text).written(false), want);
    }

    private static void rowsInTheirOrder() {
        Run.sentence("THE ANSWER of rows are the chosen rows, in their order");
        dueRows("a\n3\n1\n2\n1\n", "rows", "0 1 2 3");
        dueRows("a\n3\n1\n2\n1\n", "rows where a<3", "1 2 3");
        dueRows("a\n3\n1\n2\n1\n", "rows where a>3", "");
        dueRows("a", "rows", "");
    }

    private static void leastFirst() {
        Run.sentence("with order, by the values of that column, the least first");
        dueRows("a\n3\n1\n2\n", "rows order a", "1 2 0");
        dueRows("a\n10\n9\n-1\n-10\n", "rows order a", "3 2 1 0");
        dueRows("a\n9223372036854775807\n-9223372036854775808\n0\n", "rows order a", "1 2 0");
        dueRows("a\n2020-02-29\n0001-01-01\n9999-12-31\n", "rows order a", "1 0 2");
        dueRows("a\nb\nab\na\n\"\"\n", "rows order a", "3 2 1 0");
        dueRows("a\n16\n15\n14\n13\n12\n11\n10\n9\n8\n7\n6\n5\n4\n3\n2\n1\n", "rows order a",
                "15 14 13 12 11 10 9 8 7 6 5 4 3 2 1 0");
        dueRows("a,b\n1,3\n2,2\n3,1\n", "rows order b", "2 1 0");
        dueRows("a,b\n1,3\n2,2\n3,1\n", "rows where a<>2 order b", "2 0");
    }

    private static void greatestFirst() {
        Run.sentence("(the greatest with desc)");
        dueRows("a\n3\n1\n2\n", "rows order a desc", "0 2 1");
        dueRows("a\n9223372036854775807\n-9223372036854775808\n0\n", "rows order a desc", "0 2 1");
        dueRows("a\n2020-02-29\n0001-01-01\n9999-12-31\n", "rows order a desc", "2 0 1");
        dueRows("a\nb\nab\na\n\"\"\n", "rows order a desc", "0 1 2 3");
        dueRows("a\n1\n2\n3\n4\n5\n6\n7\n8\n9\n10\n11\n12\n13\n14\n15\n16\n", "rows order a desc",
                "15 14 13 12 11 10 9 8 7 6 5 4 3 2 1 0");
    }

    private static void missingOnesFirst() {
        Run.sentence("missing ones before all others (after them with desc)");
        dueRows("a\n-9223372036854775808\n\n0\n", "rows order a", "1 0 2");
        dueRows("a\n-9223372036854775808\n\n0\n", "rows order a desc", "2 0 1");
        dueRows("a\n\"\"\n\nx\n", "rows order a", "1 0 2");
        dueRows("a\n\"\"\n\nx\n", "rows order a desc", "2 0 1");
        dueRows("a\n0001-01-01\n\n", "rows order a", "1 0");
        dueRows("a\n\n0001-01-01\n", "rows order a desc", "1 0");
    }

    private static void equalOnes() {
        Run.sentence("equal ones in the order of their rows");
        dueRows("a\n2\n1\n2\n1\n2\n", "rows order a", "1 3 0 2 4");
        dueRows("a\n2\n1\n2\n1\n2\n", "rows order a desc", "0 2 4 1 3");
        dueRows("a\n\n1\n\n1\n\n", "rows order a", "0 2 4 1 3");
        dueRows("a\n\n1\n\n1\n\n", "rows order a desc", "1 3 0 2 4");
        dueRows("a\nx\n\"x\"\ny\nx\n", "rows order a desc", "2 0 1 3");
        dueRows("a" + "\n5".repeat(16), "rows order a desc", "0 1 2 3 4 5 6 7 8 9 10 11 12 13 14 15");
    }

    private static void allColumns() {
        Run.sentence("It has all columns of the table");
        dueWritten("a,b,c,d,e,f\n1,2,3,4,5,6\n6,5,4,3,2,1\n", "rows where a=6 order f", "a,b,c,d,e,f\n6,5,4,3,2,1\n");
        dueWritten("a,b,c\n1,2,3\n", "rows where a=6", "a,b,c\n");
    }

    private static void counts() {
        Run.sentence("The answer of an aggregate without by is one LINE: count: how many rows are chosen");
        dueLines("a\n\n1\n\n", "count", "3", "3");
        dueLines("a\n\n1\n\n", "count where a is null", "2", "2");
        dueLines("a\n\n1\n\n", "count where a=2", "0", "0");
        dueLines("a", "count", "0", "0");
        dueLines("a" + "\n1".repeat(16), "count", "16", "16");
    }

    private static void sums() {
        Run.sentence("of the cells of the column that are not missing in chosen rows: the sum");
        dueLines("a,b\n5,1\n,2\n-7,3\n9,4\n", "sum(a)", "4", "7");
        dueLines("a,b\n5,1\n,2\n-7,3\n9,4\n", "sum(a) where b<4", "3", "-2");
        dueLines("a\n5\n-5\n", "sum(a)", "2", "0");
        dueLines("a" + "\n2147483647".repeat(16), "sum(a)", "16", "34359738352");
        dueLines("a" + "\n-2147483648".repeat(16), "sum(a)", "16", "-34359738368");
    }

    private static void leastAndMost() {
        Run.sentence("the least or greatest value");
        String table = "a,b,t\n5,2020-02-29,b\n,,\n-7,0001-01-01,ab\n9,9999-12-31,\"\"\n";
        dueLines(table, "least(a)", "4", "-7");
        dueLines(table, "most(a)", "4", "9");
        dueLines(table, "least(b)", "4", "10101");
        dueLines(table, "most(b)", "4", "99991231");
        dueLines(table, "most(b) where a<9", "2", "20200229");
        dueWritten(table, "least(t)", "least\n\"\"\n");
        dueWritten(table, "most(t)", "most\nb\n");
        dueWritten(table, "least(t) where t>''", "least\nab\n");
        String far = "a\n9223372036854775807\n-9223372036854775808\n0\n";
        dueLines(far, "least(a)", "3", "-9223372036854775808");
        dueLines(far, "most(a)", "3", "9223372036854775807");
        dueLines("a\n-1\n-2\n", "most(a)", "2", "-1");
        dueLines("a\n1\n2\n", "least(a)", "2", "1");
    }

    private static void missingAggregates() {
        Run.sentence("MISSING, if there is none such");
        for (String verb : new String[] {"sum", "least", "most"}) {
            dueLines("a", verb + "(a)", "0", MISSING);
            dueLines("a\n\n\n", verb + "(a)", "2", MISSING);
            dueLines("a\n1\n\n", verb + "(a) where a is null", "1", MISSING);
            dueLines("a\n1\n\n", verb + "(a) where a=2", "0", MISSING);
            dueLines("a\n0\n\n", verb + "(a)", "2", "0");
            dueWritten("a\n1\n\n", verb + "(a) where a=2", verb + "\n\n");
        }
        dueWritten("a\nx\n\n", "most(a) where a is null", "most\n\n");
    }

    private static void linesOfGroups() {
        Run.sentence("With by there is a line for each value that chosen rows have in that column");
        dueLines("a\n2\n1\n2\n10\n-1\n", "count by a", "1 1 2 1", "1 1 2 1");
        dueLines("a\n2\n1\n2\n10\n-1\n", "count by a where a>1", "2 1", "2 1");
        dueLines("a\n2\n1\n", "count by a where a=7", "", "");
        dueLines("a", "count by a", "", "");
        dueLines("a", "sum(a) by a", "", "");
        dueLines("a\n9\n8\n7\n6\n5\n4\n3\n2\n1\n0\n-1\n-2\n-3\n-4\n-5\n-6\n", "least(a) by a", "1" + " 1".repeat(15),
                "-6 -5 -4 -3 -2 -1 0 1 2 3 4 5 6 7 8 9");
        dueLines("a" + "\n7".repeat(16), "sum(a) by a", "16", "112");
        dueWritten("a\nx\n\"x\"\nX\n\"\"\n\" \"\n", "count by a", "a,count\n\"\",1\n ,1\nX,1\nx,2\n");
        dueWritten("a\n9999-12-31\n0001-01-01\n", "count by a", "a,count\n0001-01-01,1\n9999-12-31,1\n");
    }

    private static void missingGroup() {
        Run.sentence("(one for missing ones, too, if there are such), the missing one first, then in order");
        dueWritten("a\n2\n\n1\n\n", "count by a", "a,count\n,2\n1,1\n2,1\n");
        dueWritten("a\n2\n\n-9223372036854775808\n", "count by a", "a,count\n,1\n-9223372036854775808,1\n2,1\n");
        dueWritten("a\nx\n\n\"\"\n", "count by a", "a,count\n,1\n\"\",1\nx,1\n");
        dueWritten("a\nx\n\n\"\"\n", "count by a where not a is null", "a,count\n\"\",1\nx,1\n");
        dueWritten("a\n\n\n", "count by a", "a,count\n,2\n");
        dueWritten("a\n1\n\n", "count by a where a is null", "a,count\n,1\n");
    }

    private static void rowsOfGroups() {
        Run.sentence("the rows with that value being the chosen ones for it");
        String table = "g,v\n1,5\n2,7\n,9\n1,\n2,-7\n3,\n,1\n";
        dueLines(table, "count by g", "2 2 2 1", "2 2 2 1");
        dueLines(table, "sum(v) by g", "2 2 2 1", "10 5 0 " + MISSING);
        dueLines(table, "least(v) by g", "2 2 2 1", "1 5 -7 " + MISSING);
        dueLines(table, "most(v) by g", "2 2 2 1", "9 5 7 " + MISSING);
        dueLines(table, "most(v) by g where v<6", "1 1 1", "1 5 -7");
        dueLines(table, "sum(g) by g", "2 2 2 1", MISSING + " 2 4 3");
    }

    private static void columnsOfAggregates() {
        Run.sentence("Its first column is the one named (if by is there), the last one the aggregate");
        String table = "g,v\n1,5\n1,7\n";
        dueWritten(table, "count", "count\n2\n");
        dueWritten(table, "count by g", "g,count\n1,2\n");
        dueWritten(table, "count by v", "v,count\n5,1\n7,1\n");
        dueWritten(table, "sum(v)", "sum\n12\n");
        dueWritten(table, "sum(v) by g", "g,sum\n1,12\n");
        dueWritten(table, "least(v) by g", "g,least\n1,5\n");
        dueWritten(table, "most(v) by g", "g,most\n1,7\n");
        dueWritten(table, "most(v) by g where v=9", "g,most\n");
    }

    private static void namesAndRows() {
        Run.sentence("the names with commas between (that of an aggregate is count, sum, least or most); 10; for each"
                + " row or line its cells with commas between; 10");
        dueTable("a", "a\n");
        dueTable("\"ab\",c\r\n1,2", "ab,c\n1,2\n");
        dueTable("a,b\n1,2\r\n3,4", "a,b\n1,2\n3,4\n");
        dueWritten("sum\n1\n", "sum(sum)", "sum\n1\n");
        dueWritten("sum\n1\n", "most(sum) by sum", "sum,most\n1,1\n");
        dueWritten("a,b\n1,2\n3,4\n", "rows order a desc", "a,b\n3,4\n1,2\n");
    }

    private static void missingCellsWritten() {
        Run.sentence("A missing cell is nothing");
        dueTable("a\n\n", "a\n\n");
        dueTable("a,b\n,\n,x\n1,\n", "a,b\n,\n,x\n1,\n");
        dueWritten("a,b\n,\n,x\n", "rows where b is null", "a,b\n,\n");
        dueWritten("a,b\n,\n,x\n", "least(a) by b", "b,least\n,\nx,\n");
    }

    private static void valuesWritten() {
        Run.sentence("a value of type 0 to 2 as it is typed");
        dueTable("a,b,c\n0,2147483648,0001-01-01\n-5,-9223372036854775808,9999-12-31\n",
                "a,b,c\n0,2147483648,0001-01-01\n-5,-9223372036854775808,9999-12-31\n");
        String[] numbers = {"0", "1", "-1", "9", "10", "-10", "99", "100", "2147483647", "-2147483648",
            "9223372036854775807", "-9223372036854775808", "1000000000000000000", "999999999999999999"};
        for (String number : numbers) {
            dueWritten("a\n" + number, "sum(a)", "sum\n" + number + "\n");
            dueWritten("a\n" + number, "least(a) by a", "a,least\n" + number + "," + number + "\n");
        }
        dueWritten("a\n0987-06-05\n", "most(a)", "most\n0987-06-05\n");
    }

    private static void textsWritten() {
        Run.sentence("a text is written plain");
        for (char c = 32; c <= 126; c++) {
            if (c != '"' && c != ',' && !(c >= '0' && c <= '9')) {
                dueTable("a,b\nx,\"" + c + "\"", "a,b\nx," + c + "\n");
            }
        }
    }

    private static void textsThatNeedMarks() {
        Run.sentence("but quoted (its quotation marks twice) if it has no characters, or a comma, a quotation mark,"
                + " 10 or 13");
        String[] cells = {"\"\"", "\",\"", "\"x,\"", "\",x\"", "\"\"\"\"", "\"x\"\"\"", "\"\"\"x\"", "\"\"\"\"\"\"",
            "\"\n\"", "\"x\n\"", "\"\nx\"", "\"\r\"", "\"x\r\"", "\"\rx\"", "\"\r\n\"", "\"x\"\"y\"\"z\"",
            "\"\"\",\"\"\""};
        for (String cell : cells) {
            dueTable("a\n" + cell, "a\n" + cell + "\n");
            dueWritten("a\n" + cell, "rows", "a\n" + cell + "\n");
            dueWritten("a\n" + cell, "least(a) by a", "a,least\n" + cell + "," + cell + "\n");
        }
    }

    private static void numbersAndDatesAsTexts() {
        Run.sentence("or is a whole number or a date");
        String[] marked = {"0", "7", "-7", "2147483648", "9223372036854775807", "-9223372036854775808", "0001-01-01",
            "9999-12-31", "2020-02-29"};
        for (String cell : marked) {
            dueTable("a,b\n\"" + cell + "\"," + cell + "\nx,x", "a,b\n\"" + cell + "\",\"" + cell + "\"\nx,x\n");
            dueWritten("a\n\"" + cell + "\"", "most(a) by a", "a,most\n\"" + cell + "\",\"" + cell + "\"\n");
        }
        String[] plain = {"00", "-0", "-", "01", "9223372036854775808", "-9223372036854775809", "0000-01-01",
            "2019-02-29", "2020-2-29", "10000-01-01", "1 ", " 1"};
        for (String cell : plain) {
            dueTable("a\n\"" + cell + "\"", "a\n" + cell + "\n");
        }
    }

    private static void roomForTables() {
        Run.sentence("OUT has room for whatever that is");
        // Each digit in a column of texts comes out with two marks more.
        String marked = "\"1\",".repeat(5) + "\"1\"\n";
        dueTable("a,b,c,d,e,f\n" + "x,x,x,x,x,x\n" + "1,1,1,1,1,1\n".repeat(15),
                "a,b,c,d,e,f\n" + "x,x,x,x,x,x\n" + marked.repeat(15));
        dueTable("a\n\"" + "\"\"".repeat(118) + "\"", "a\n\"" + "\"\"".repeat(118) + "\"\n");
        dueTable("a\n" + "x".repeat(238), "a\n" + "x".repeat(238) + "\n");
        dueTable(LONGEST_TABLE, LONGEST_WRITTEN);
        Run.due("characters of the longest", LONGEST_TABLE.length() + " " + LONGEST_WRITTEN.length(), "240 421");
    }

    private static void roomForRows() {
        Run.sentence("OUT has room for whatever that is");
        dueWritten(LONGEST_TABLE, "rows", LONGEST_WRITTEN);
        dueWritten(LONGEST_TABLE, "rows where a<>'y' order a", LONGEST_TURNED);
        dueWritten("a\n" + "x".repeat(238), "rows order a", "a\n" + "x".repeat(238) + "\n");
    }

    private static void roomForLines() {
        Run.sentence("OUT has room for whatever that is");
        String marks = "\"" + "\"\"".repeat(118) + "\"";
        dueEnd("a\n" + marks, "most(a) by a", "a,most\n" + marks + "," + marks + "\n");
        String letters = "x".repeat(238);
        dueEnd("a\n" + letters, "least(a) by a", "a,least\n" + letters + "," + letters + "\n");
        // 240 characters, and of them as many lines as can be, each cell twice, and all but one with marks more.
        StringBuilder text = new StringBuilder("a");
        StringBuilder want = new StringBuilder("a,least\n");
        for (long number = 10000000000001L; number <= 10000000000015L; number++) {
            text.append('\n').append(number);
            want.append('"').append(number).append("\",\"").append(number).append("\"\n");
        }
        text.append("\nxxxxxxxxxxxxx");
        want.append("xxxxxxxxxxxxx,xxxxxxxxxxxxx\n");
        Run.due("characters of the longest", text.length() + " " + want.length(), "240 546");
        dueEnd(text.toString(), "least(a) by a", want.toString());
        StringBuilder numbers = new StringBuilder("a");
        StringBuilder sums = new StringBuilder("a,sum\n");
        for (long number = -9999999999999L; number <= -9999999999985L; number++) {
            numbers.append('\n').append(number);
            sums.append(number).append(',').append(number).append('\n');
        }
        dueEnd(numbers + "\n9999999999999", "sum(a) by a", sums + "9999999999999,9999999999999\n");
    }

    /** As dueWritten, but only the end of what is long is looked at, as an object is good for 512 calls. */
    private static void dueEnd(String text, String question, String want) {
        Run run = Run.of(text);
        run.ask(question);
        int length = want.length();
        Run.due("length of [" + question + "] written", Run.told(() -> run.x.write(true)), Integer.toString(length));
        StringBuilder end = new StringBuilder();
        for (int i = Math.max(0, length - 400); i < length; i++) {
            int place = i;
            end.append(Run.told(() -> run.x.out(place))).append(' ');
        }
        StringBuilder wanted = new StringBuilder();
        for (int i = Math.max(0, length - 400); i < length; i++) {
            wanted.append((int) want.charAt(i)).append(' ');
        }
        Run.due("the end of [" + question + "] written", end.toString(), wanted.toString());
        Run.due("out behind the end", Run.told(() -> run.x.out(length)), "IndexOutOfBoundsException");
    }
}
