import java.time.YearMonth;

/** Promises 5 to 8: columns, type, isMissing and value. */
public final class CellsTest {
    private static final String NO_CELL = "IndexOutOfBoundsException";
    private static final String OF_TEXT = "IllegalStateException";
    private static final String MISSING = "NoSuchElementException";

    public static void main(String[] args) {
        columnsAreCounted();
        typesOfSingleCells();
        typesOfDates();
        typesOfMixedColumns();
        cellsThatAreThere();
        values();
        whichExceptionIsFirst();
        withoutATable();
        cornersOfTables();
        typesOfColumns();
        whetherCellsAreMissing();
        valuesOfTexts();
        valuesOfMissingCells();
        Run.finish();
    }

    private static void columnsAreCounted() {
        Run.due("columns", Run.of("a").x.columns(), 1);
        Run.due("columns", Run.of("a,b,c,d,e,f\n1,2,3,4,5,6").x.columns(), 6);
        Run run = Run.of("a,b");
        run.load("x,y,z\n1,2");
        Run.due("columns after a load that throws", run.x.columns(), 2);
    }

    /** A second column keeps the one that is looked at from being the record's only field. */
    private static int typeOf(String... cells) {
        StringBuilder text = new StringBuilder("z,a\n");
        for (String cell : cells) {
            text.append("x,").append(cell).append('\n');
        }
        return Run.of(text.toString()).x.type(1);
    }

    private static void dueType(int want, String... cells) {
        Run.due("type of " + String.join(" ", cells), typeOf(cells), want);
    }

    private static void typesOfSingleCells() {
        for (String cell : new String[] {"0", "7", "-7", "10", "2147483647", "-2147483648"}) {
            dueType(0, cell);
        }
        for (String cell : new String[] {"2147483648", "-2147483649", "9223372036854775807",
            "-9223372036854775808", "9223372036854775799", "1000000000000000000"}) {
            dueType(1, cell);
        }
        for (String cell : new String[] {"0001-01-01", "9999-12-31", "2020-02-29", "2000-02-29", "2019-02-28",
            "2019-04-30", "2019-01-31", "2019-03-31", "2019-05-31", "2019-07-31", "2019-08-31", "2019-10-31"}) {
            dueType(2, cell);
        }
        for (String cell : new String[] {"x", "00", "01", "-0", "-01", "-", "--1", "+1", "1-", " 1", "1 ", "1.0", "1e3",
            "9223372036854775808", "-9223372036854775809", "9999999999999999999", "10000000000000000000",
            "-10000000000000000000", "99999999999999999999999", "18446744073709551616",
            "0000-01-01", "2019-02-29", "1900-02-29", "2100-02-29", "2020-02-30", "2019-04-31", "2019-06-31",
            "2019-09-31", "2019-11-31", "2019-12-32", "2019-00-10", "2019-13-10", "2019-10-00", "219-01-01",
            "2019-1-01", "2019-01-1", "2019/01/01", "02019-01-01", "2019-01-011", "-019-01-01", "2019-01--1",
            "20190-1-01", "2019-01-01 ", "2019-0a-01", "20:9-01-01", "2/19-01-01", "2019-0:-01", "2019-01-0:",
            "2019-1/-01", "/019-01-01", "2019-01:01", "\"\"", "\"1\"", "\"2020-02-29\"", "\"x\""}) {
            dueType(3, cell);
        }
    }

    private static void typesOfDates() {
        for (int year : new int[] {0, 1, 4, 100, 400, 1900, 2000, 2004, 2005, 2019, 2020, 2100, 9996, 9999}) {
            for (int month = 0; month <= 13; month++) {
                boolean is = year > 0 && month >= 1 && month <= 12;
                int days = is ? YearMonth.of(year, month).lengthOfMonth() : 0;
                for (int day = 0; day <= 32; day++) {
                    dueType(day >= 1 && day <= days ? 2 : 3, String.format("%04d-%02d-%02d", year, month, day));
                }
            }
        }
    }

    private static void typesOfMixedColumns() {
        dueType(0);
        dueType(0, "", "");
        dueType(0, "", "1");
        dueType(1, "1", "2147483648", "");
        dueType(1, "-9223372036854775808", "0");
        dueType(2, "", "2020-01-01", "");
        dueType(3, "1", "2020-01-01");
        dueType(3, "2147483648", "2020-01-01");
        dueType(3, "1", "x");
        dueType(3, "2020-01-01", "x");
        dueType(3, "1", "\"2\"");
        dueType(3, "1", "", "\"\"");
        Run run = Run.of("a,b,c,d\n1,x,2020-01-01,\n2147483648,,,\n");
        Run.due("types", "" + run.x.type(0) + run.x.type(1) + run.x.type(2) + run.x.type(3), "1320");
        for (int column : new int[] {-1, 4, 6, Integer.MIN_VALUE, Integer.MAX_VALUE}) {
            Run.due("type of column " + column, Run.told(() -> run.x.type(column)), NO_CELL);
        }
    }

    private static void cellsThatAreThere() {
        Run run = Run.of("a,b\n,\"\"\n1,\n\" \", ");
        Run.due("a plain one without characters", run.missing(0, 0), "1");
        Run.due("a quoted one without characters", run.missing(0, 1), "0");
        Run.due("a number", run.missing(1, 0), "0");
        Run.due("the record's end", run.missing(1, 1), "1");
        Run.due("a quoted space", run.missing(2, 0), "0");
        Run.due("a plain space", run.missing(2, 1), "0");
        int[][] outside = {{-1, 0}, {0, -1}, {3, 0}, {0, 2}, {-1, -1}, {3, 2}, {-1, 2},
            {Integer.MAX_VALUE, 0}, {0, Integer.MAX_VALUE}, {Integer.MIN_VALUE, 1}, {1, Integer.MIN_VALUE}};
        for (int[] cell : outside) {
            String place = "cell " + cell[0] + ", " + cell[1];
            Run.due("isMissing of " + place, run.missing(cell[0], cell[1]), NO_CELL);
            Run.due("value of " + place, Run.told(() -> run.x.value(cell[0], cell[1])), NO_CELL);
        }
        Run.due("a cell of a table without rows", Run.of("a").missing(0, 0), NO_CELL);
    }

    private static void values() {
        Run run = Run.of("a,b,c\n0,9223372036854775807,2020-02-29\n-2147483648,-9223372036854775808,0001-01-01\n"
                + "2147483647,-1,9999-12-31\n");
        String told = "";
        for (int row = 0; row < 3; row++) {
            for (int column = 0; column < 3; column++) {
                told += run.x.value(row, column) + " ";
            }
        }
        Run.due("values", told, "0 9223372036854775807 20200229 -2147483648 -9223372036854775808 10101 "
                + "2147483647 -1 99991231 ");
    }

    private static void typesOfColumns() {
        Run.sentence("The type of a column (0 the first)");
        Run run = Run.of("a,b,c,d,e,f\nx,2020-02-29,2147483648,1,,\"1\"\n");
        String types = "";
        for (int column = 0; column < 6; column++) {
            types += run.type(column);
        }
        Run.due("types", types, "321003");
        Run.due("one before and one behind", run.type(-1) + run.type(6), NO_CELL + NO_CELL);
        Run.due("the only one", Run.of("a\nx").type(0), "3");
        Run.due("one behind the only one", Run.of("a\nx").type(1), NO_CELL);
    }

    private static void whetherCellsAreMissing() {
        Run.sentence("Whether a cell is missing");
        Run run = Run.of("a,b,c,d\n,1,2020-02-29,x\n1,,,\n2,3,,\"\"\n");
        String told = "";
        for (int row = 0; row < 3; row++) {
            for (int column = 0; column < 4; column++) {
                told += run.missing(row, column);
            }
        }
        Run.due("of each type", told, "100001110010");
    }

    private static void valuesOfTexts() {
        Run.sentence("IllegalStateException when the column's type is 3");
        Run run = Run.of("a,b\n1,\"1\"\nx,2\n,\n2020-02-29,\"\"\n");
        for (int row = 0; row < 4; row++) {
            Run.due("value of row " + row, run.value(row, 0) + run.value(row, 1), OF_TEXT + OF_TEXT);
        }
        Run.due("value of the row behind", run.value(4, 0) + run.value(4, 1), NO_CELL + NO_CELL);
        Run.due("value of the column behind", run.value(0, 2), NO_CELL);
    }

    private static void valuesOfMissingCells() {
        Run.sentence("NoSuchElementException when it is missing");
        Run run = Run.of("a,b,c,d\n,,,\n1,2147483648,2020-02-29,\n");
        for (int column = 0; column < 4; column++) {
            Run.due("value of column " + column, run.value(0, column), MISSING);
        }
        Run.due("value of a column that is missing throughout", run.value(1, 3), MISSING);
        Run.sentence("The value of a cell");
        Run.due("values", run.value(1, 0) + " " + run.value(1, 1) + " " + run.value(1, 2), "1 2147483648 20200229");
    }

    private static void withoutATable() {
        Run run = new Run();
        for (String text : new String[] {"", "a,b\n1,2", "a,b\n1"}) {
            // Not loaded, or not to be loaded.
            run.put(false, text);
            if (!text.equals("a,b\n1,2")) {
                Run.told(run.x::load);
            }
            Run.sentence("How many columns the table has (0 if there is none)");
            Run.due("columns", run.x.columns(), 0);
            Run.sentence("IndexOutOfBoundsException when there is none");
            for (int i : new int[] {-1, 0, 1, Integer.MIN_VALUE, Integer.MAX_VALUE}) {
                Run.due("type " + i, run.type(i), NO_CELL);
                Run.due("isMissing " + i, run.missing(i, 0) + run.missing(0, i), NO_CELL + NO_CELL);
                Run.due("value " + i, run.value(i, 0) + run.value(0, i), NO_CELL + NO_CELL);
            }
        }
    }

    /** Tables of all sizes, with the number 10 * row + column in each cell: the corners, and one step outside. */
    private static void cornersOfTables() {
        for (int columns = 1; columns <= 6; columns++) {
            for (int rows : new int[] {0, 1, 2, 9}) {
                dueCorners(columns, rows, Run.of(numbered(columns, rows)));
            }
        }
        dueCorners(1, 16, Run.of(numbered(1, 16)));
        dueCorners(4, 16, Run.of(numbered(4, 16)));
        Run wide = Run.of("a,b,c,d,e,f" + "\n,,,,,".repeat(15) + "\n,,,,,7");
        Run.due("the last cell", wide.missing(15, 5) + wide.value(15, 5), "07");
        Run.due("those beside it", wide.missing(15, 4) + wide.missing(14, 5) + wide.missing(0, 0), "111");
        Run.due("those outside", wide.missing(16, 0) + wide.missing(15, 6) + wide.value(16, 5), NO_CELL.repeat(3));
    }

    private static String numbered(int columns, int rows) {
        StringBuilder text = new StringBuilder("a,b,c,d,e,f".substring(0, 2 * columns - 1));
        for (int row = 0; row < rows; row++) {
            for (int column = 0; column < columns; column++) {
                text.append(column == 0 ? '\n' : ',').append(10 * row + column);
            }
        }
        return text.toString();
    }

    private static void dueCorners(int columns, int rows, Run run) {
        Run.sentence("IndexOutOfBoundsException when there is none");
        Run.due("columns", run.x.columns(), columns);
        int[] somewhere = {Integer.MIN_VALUE, -1, 0, columns - 1, columns, rows - 1, rows, Integer.MAX_VALUE};
        for (int column : somewhere) {
            boolean has = column >= 0 && column < columns;
            Run.due("type " + column + " of " + columns, run.type(column), has ? "0" : NO_CELL);
            for (int row : somewhere) {
                boolean is = has && row >= 0 && row < rows;
                String cell = "(" + row + ", " + column + ") of " + rows + " rows and " + columns + " columns";
                Run.due("isMissing" + cell, run.missing(row, column), is ? "0" : NO_CELL);
                Run.due("value" + cell, run.value(row, column), is ? "" + (10 * row + column) : NO_CELL);
            }
        }
    }

    private static void whichExceptionIsFirst() {
        Run run = Run.of("a,b\n,\nx,1\n");
        Run.due("a missing one of type 3", Run.told(() -> run.x.value(0, 0)), OF_TEXT);
        Run.due("a text", Run.told(() -> run.x.value(1, 0)), OF_TEXT);
        Run.due("a missing number", Run.told(() -> run.x.value(0, 1)), MISSING);
        Run.due("a number", Run.told(() -> run.x.value(1, 1)), "1");
        Run.due("no row of type 3", Run.told(() -> run.x.value(2, 0)), NO_CELL);
    }
}
