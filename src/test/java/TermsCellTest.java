import java.math.BigInteger;

/** "Terms", what they say of cells, whole numbers, dates, types, values and their order: each sentence on its own. */
public final class TermsCellTest {
    private static final String OF_TEXT = "IllegalStateException";
    private static final String MISSING = "NoSuchElementException";
    private static final String NO_QUESTION = "IllegalArgumentException";
    private static final BigInteger INT_END = BigInteger.ONE.shiftLeft(31);
    private static final BigInteger LONG_END = BigInteger.ONE.shiftLeft(63);

    public static void main(String[] args) {
        missingCells();
        textsOfCells();
        wholeNumbers();
        wholeNumbersUpToALong();
        years();
        monthsAndDays();
        leapYears();
        dateForm();
        intColumns();
        longColumns();
        dateColumns();
        textColumns();
        cellsThatAreMissingHaveNoSay();
        valuesOfNumbers();
        valuesOfDates();
        orderAsLongs();
        orderOfTexts();
        Run.finish();
    }

    /** A table with these cells in its second column: the first one keeps records from being empty. */
    private static Run withCells(String... cells) {
        StringBuilder text = new StringBuilder("z,a\n");
        for (String cell : cells) {
            text.append("x,").append(cell).append('\n');
        }
        return Run.of(text.toString());
    }

    private static void dueType(int want, String... cells) {
        Run.due("type of [" + String.join("] [", cells) + "]", withCells(cells).x.type(1), want);
    }

    /** Whether a text is a whole number or a date shows in three places: a type, a question, and what is written. */
    private static void dueKind(String text, int want) {
        dueType(want, text);
        String numbers = withCells("5").ask("count where a<>" + text);
        Run.due("question with the number " + text, numbers, want < 2 ? "1" : NO_QUESTION);
        String dates = withCells("2019-03-03").ask("count where a<>" + text);
        Run.due("question with the date " + text, dates, want == 2 ? "1" : NO_QUESTION);
        String marked = want < 3 ? "\"" + text + "\"" : text;
        Run.due("written text " + text, withCells("\"" + text + "\"").written(false), "z,a\nx," + marked + "\n");
    }

    private static void missingCells() {
        Run.sentence("a plain one without characters is MISSING");
        Run run = Run.of("a,b,c\n,\"\",\n\"\",, \n");
        Run.due("missing cells", run.missing(0, 0) + run.missing(0, 1) + run.missing(0, 2), "101");
        Run.due("missing cells", run.missing(1, 0) + run.missing(1, 1) + run.missing(1, 2), "010");
        Run one = Run.of("a\n\n\"\"\n\r\n");
        Run.due("missing cells", one.missing(0, 0) + one.missing(1, 0) + one.missing(2, 0), "101");
        one.ask("rows where a is null");
        Run.due("missing cells in a question", one.linesTold(), "0 2");
    }

    private static void textsOfCells() {
        Run.sentence("(of a quoted one those between the marks, each two marks one)");
        Run run = Run.of("a\n\"x\"\n\"x\"\"y\"\n\"\"\"\"\n\"\"\"\"\"\"\n\" \"\n\"\"\n");
        String[] questions = {"a='x'", "a='x\"y'", "a='\"'", "a='\"\"'", "a=' '", "a=''"};
        for (int row = 0; row < questions.length; row++) {
            run.ask("rows where " + questions[row]);
            Run.due("rows where " + questions[row], run.linesTold(), Integer.toString(row));
        }
    }

    private static void wholeNumbers() {
        Run.sentence("a WHOLE NUMBER if it is 0, or digits of which the first is not 0, perhaps with - before these");
        for (String number : new String[] {"0", "1", "9", "10", "90", "100", "-1", "-9", "-10", "1000000"}) {
            dueKind(number, 0);
        }
        for (String none : new String[] {"00", "01", "-0", "-00", "-01", "-", "--", "--1", "1-", "-1-", "1-1", "0-",
            "000000000000000000001", "-000000000000000000001"}) {
            dueKind(none, 3);
        }
        for (String none : new String[] {"+1", " 1", "1 ", "1.0", "1.", ".1", "1e1", "0x1", "1_0", "1'0", "a", "1a"}) {
            dueType(3, none);
        }
    }

    private static void wholeNumbersUpToALong() {
        Run.sentence("from -2^63 to 2^63 - 1");
        for (int off = -12; off <= 12; off++) {
            BigInteger above = LONG_END.add(BigInteger.valueOf(off));
            dueKind(above.toString(), off < 0 ? 1 : 3);
            dueKind(above.negate().toString(), off <= 0 ? 1 : 3);
        }
        for (String beyond : new String[] {"9223372036854775810", "9300000000000000000", "9999999999999999999",
            "10000000000000000000", "92233720368547758070", "18446744073709551615", "18446744073709551616",
            "18446744073709551617", "340282366920938463463374607431768211456"}) {
            dueKind(beyond, 3);
            dueKind("-" + beyond, 3);
        }
        dueKind("1000000000000000000", 1);
        dueKind("-1000000000000000000", 1);
        dueKind("9199999999999999999", 1);
        dueKind("-9199999999999999999", 1);
    }

    private static void years() {
        Run.sentence("a year 0001 .. 9999");
        dueKind("0000-01-01", 3);
        dueKind("0000-12-31", 3);
        dueKind("0001-01-01", 2);
        dueKind("9999-12-31", 2);
        dueKind("10000-01-01", 3);
        dueKind("999-12-31", 3);
        dueKind("-001-01-01", 3);
    }

    private static void monthsAndDays() {
        Run.sentence("and a month and day that there are");
        int[] days = {31, 28, 31, 30, 31, 30, 31, 31, 30, 31, 30, 31};
        for (int month = 0; month <= 13; month++) {
            int last = month >= 1 && month <= 12 ? days[month - 1] : 0;
            for (int day : new int[] {0, 1, 27, 28, 29, 30, 31, 32, 99}) {
                dueKind(String.format("2023-%02d-%02d", month, day), day >= 1 && day <= last ? 2 : 3);
            }
        }
        dueKind("2023-99-01", 3);
    }

    private static void leapYears() {
        Run.sentence("(years divisible by 4 are leap years, those divisible by 100 only if by 400)");
        for (int year : new int[] {4, 8, 96, 104, 400, 800, 1600, 1996, 2000, 2004, 2020, 2024, 2400, 9600, 9996}) {
            dueKind(String.format("%04d-02-29", year), 2);
            dueKind(String.format("%04d-02-30", year), 3);
        }
        for (int year : new int[] {1, 2, 3, 5, 100, 200, 300, 500, 1700, 1800, 1900, 2001, 2002, 2003, 2100, 2200,
            9900, 9999}) {
            dueKind(String.format("%04d-02-28", year), 2);
            dueKind(String.format("%04d-02-29", year), 3);
        }
    }

    private static void dateForm() {
        Run.sentence("a DATE if it is yyyy-mm-dd, digits");
        for (String none : new String[] {"2020-1-01", "2020-01-1", "2020-001-01", "2020-01-001", "202-001-01",
            "20200-1-01", "20200101", "2020--1-01", "2020-01--1", "2020-0101", "202001-01", "2020-01-01-",
            "-2020-01-01", "2020-01-0", "----------", "2020-01---", "---0-01-01"}) {
            dueKind(none, none.equals("20200101") ? 0 : 3);
        }
        for (String none : new String[] {"2020/01/01", "2020-01/01", "2020/01-01", "2o20-01-01", "2020-o1-01",
            "2020-01-o1", " 020-01-01", "2020- 1-01", "2020-01- 1", "2020-01-01 ", "2020-01-1:", "202:-01-01"}) {
            dueType(3, none);
        }
    }

    private static void intColumns() {
        Run.sentence("0 INT: whole numbers from -2^31 to 2^31 - 1, plain");
        for (int off = -2; off <= 2; off++) {
            BigInteger above = INT_END.add(BigInteger.valueOf(off));
            dueType(off < 0 ? 0 : 1, above.toString());
            dueType(off <= 0 ? 0 : 1, above.negate().toString());
        }
        dueType(1, "4294967296");
        dueType(1, "-4294967296");
        dueType(0, "2147483647", "-2147483648", "0");
        dueType(3, "\"5\"");
        dueType(3, "5", "\"6\"", "7");
    }

    private static void longColumns() {
        Run.sentence("1 LONG: whole numbers, plain");
        dueType(1, "2147483648", "1");
        dueType(1, "1", "-2147483649");
        dueType(1, "9223372036854775807", "-9223372036854775808");
        dueType(3, "9223372036854775807", "9223372036854775808");
        dueType(3, "-9223372036854775808", "-9223372036854775809");
        dueType(3, "\"2147483648\"");
        dueType(3, "2147483648", "\"2147483648\"");
    }

    private static void dateColumns() {
        Run.sentence("2 DATE: dates, plain");
        dueType(2, "2020-02-29", "0001-01-01", "9999-12-31");
        dueType(3, "2020-02-29", "2019-02-29");
        dueType(3, "2020-02-29", "20200229");
        dueType(3, "20200229", "2020-02-29");
        dueType(3, "2147483648", "2020-02-29");
        dueType(3, "\"2020-02-29\"");
        dueType(3, "2020-02-29", "\"2020-02-29\"");
    }

    private static void textColumns() {
        Run.sentence("3 TEXT");
        dueType(3, "x");
        dueType(3, "\"\"");
        dueType(3, " ");
        dueType(3, "1", "2", "x");
        dueType(3, "x", "1", "2");
        dueType(3, "2020-02-29", "", "x");
        Run run = Run.of("a,b,c,d,e,f\nx,1,2147483648,2020-02-29,,\"\"\n");
        String types = "";
        for (int column = 0; column < 6; column++) {
            types += run.type(column);
        }
        Run.due("types side by side", types, "301203");
    }

    private static void cellsThatAreMissingHaveNoSay() {
        Run.sentence("the first of these that all its cells that are not missing fit");
        dueType(0);
        dueType(0, "");
        dueType(0, "", "", "");
        dueType(0, "", "1", "");
        dueType(1, "", "2147483648", "");
        dueType(2, "", "2020-02-29", "");
        dueType(3, "", "x", "");
        dueType(3, "", "\"\"", "");
        Run.due("type in a table without rows", Run.of("a").type(0), "0");
    }

    private static void valuesOfNumbers() {
        Run.sentence("The VALUE of a cell of the first three types is a long: the number");
        String[] numbers = {"0", "1", "-1", "2147483647", "-2147483648", "2147483648", "-2147483649",
            "9223372036854775807", "-9223372036854775808", "9223372036854775800", "1000000000000000000"};
        for (String number : numbers) {
            Run.due("value of " + number, withCells(number).value(0, 1), number);
            Run.due("aggregate of " + number, aggregateOf(number), number);
        }
        Run.due("value of a text", withCells("x").value(0, 1), OF_TEXT);
        Run.due("value of a missing one", withCells("").value(0, 1), MISSING);
    }

    private static String aggregateOf(String cell) {
        Run run = withCells(cell);
        run.ask("most(a)");
        return run.aggregate(0);
    }

    private static void valuesOfDates() {
        Run.sentence("or for a date 10000 * year + 100 * month + day");
        String[][] dates = {{"0001-01-01", "10101"}, {"9999-12-31", "99991231"}, {"2020-02-29", "20200229"},
            {"0999-10-09", "9991009"}};
        for (String[] date : dates) {
            Run.due("value of " + date[0], withCells(date[0]).value(0, 1), date[1]);
            Run.due("aggregate of " + date[0], aggregateOf(date[0]), date[1]);
        }
    }

    private static void dueOrder(String want, String... cells) {
        Run run = withCells(cells);
        run.ask("rows order a");
        Run.due("order of [" + String.join("] [", cells) + "]", run.linesTold(), want);
    }

    private static void orderAsLongs() {
        Run.sentence("VALUES of one type are in order as longs");
        dueOrder("3 1 0 2", "2", "-1", "10", "-10");
        dueOrder("1 2 0", "2147483647", "-2147483648", "0");
        dueOrder("1 2 3 0", "9223372036854775807", "-9223372036854775808", "-1", "0");
        dueOrder("2 1 3 0", "9999-12-31", "0002-01-01", "0001-12-31", "0002-01-02");
        Run run = withCells("9223372036854775807", "-9223372036854775808", "0");
        run.ask("rows where a<0");
        Run.due("rows below 0", run.linesTold(), "1");
        run.ask("rows where a>-9223372036854775808");
        Run.due("rows above the least", run.linesTold(), "0 2");
        run.ask("rows where a<9223372036854775807");
        Run.due("rows below the greatest", run.linesTold(), "1 2");
    }

    private static void orderOfTexts() {
        Run.sentence("texts character by character (what ends first before what goes on)");
        dueOrder("1 0 2", "ab", "a", "abc");
        dueOrder("2 1 0", "b", "ab", "\"\"");
        dueOrder("2 0 1", "\"10\"", "\"9\"", "\" 9\"");
        dueOrder("1 2 0", "a", "B", "Z");
        dueOrder("2 1 0", "~", "\"\r\"", "\"\n\"");
        dueOrder("1 0 2", "\"x\"\"\"", "x!", "x#");
        Run run = withCells("a", "ab", "\"\"", "b");
        String[][] questions = {{"a<'ab'", "0 2"}, {"a<='ab'", "0 1 2"}, {"a>'a'", "1 3"}, {"a>=''", "0 1 2 3"},
            {"a<''", ""}, {"a>''", "0 1 3"}, {"a<>'a '", "0 1 2 3"}, {"a<'a '", "0 2"}};
        for (String[] question : questions) {
            run.ask("rows where " + question[0]);
            Run.due("rows where " + question[0], run.linesTold(), question[1]);
        }
    }
}
