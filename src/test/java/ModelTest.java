import java.util.Random;
import java.util.function.LongSupplier;

/** Many runs of calls, the same each time, on the program and on the model, whose answers must be alike. */
public final class ModelTest {
    private static final int RUNS = 8000;
    /** Nothing is promised of an object's calls behind this one. */
    private static final int LAST_CALL = 512;
    private static final String[] NAMES = {"a", "b", "c", "rows", "sum", "longer"};
    private static final String[][] CELLS = {
        {"", "0", "1", "-1", "7", "2147483647", "-2147483648"},
        {"", "1", "2147483648", "-2147483649", "9223372036854775807", "-9223372036854775808", "5000000000000000000"},
        {"", "2020-02-29", "2019-12-31", "0001-01-01", "9999-12-31", "2000-02-29"},
        {"", "x", "xy", "\"\"", "\"x\"", "\"a,b\"", "\"q\"\"r\"", "\"1\"", "1", "2020-02-29", "\"\n\"", "-0", " "},
        {"", "1", "2020-02-29", "1900-02-29", "9223372036854775808", "01", "\"\r\n\""},
    };
    private static final String[] LITERALS = {"0", "1", "-1", "7", "2147483648", "9223372036854775807", "2020-02-29",
        "2019-12-31", "'x'", "''", "'a,b'", "'1'", "'q\"r'", "-", "00", "-0", "2019-02-29", "9223372036854775808"};
    private static final String[] TOKENS = {"rows", "count", "sum", "least", "most", "by", "where", "and", "or", "not",
        "is", "null", "order", "desc", "(", ")", "=", "<>", "<", "<=", ">", ">=", "'", "?", "A", "z", "\""};
    private static final String[] SIGNS = {"=", "<>", "<", "<=", ">", ">="};

    private final Random random;
    private final AskedTable program = new AskedTable();
    private final Model model = new Model();
    private final StringBuilder calls = new StringBuilder();
    private int columns = 1;
    private final int[] kinds = new int[8];
    private int made = 0;
    private boolean agreed = true;

    private ModelTest(long seed) {
        random = new Random(seed);
    }

    public static void main(String[] args) {
        int bad = 0;
        for (long seed = 0; seed < RUNS && bad < 5; seed++) {
            ModelTest test = new ModelTest(seed);
            while (test.made < LAST_CALL && test.agreed) {
                test.turn();
            }
            if (!test.agreed) {
                bad++;
                System.out.println("run of seed " + seed + ":\n" + test.calls);
            }
        }
        Run.due("the number of runs that differ from the model", bad, 0);
        Run.finish();
    }

    private void turn() {
        switch (calls.isEmpty() && random.nextInt(20) > 0 ? 0 : random.nextInt(10)) {
            case 0:
                fill(false, table());
                both("load()", program::load, model::load);
                break;
            case 1:
                fill(false, noise());
                both("load()", program::load, model::load);
                break;
            case 2:
                oddInput();
                break;
            case 3:
                fill(false, table());
                both("load()", program::load, model::load);
                lookAtCells();
                break;
            default:
                fill(true, random.nextInt(3) == 0 ? spoiled(question()) : question());
                both("ask()", program::ask, model::ask);
                break;
        }
        lookAtAnswer();
    }

    private void both(String call, LongSupplier ofProgram, LongSupplier ofModel) {
        if (made == LAST_CALL || !agreed) {
            return;
        }
        made++;
        String got = Run.told(ofProgram);
        String want = Run.told(ofModel);
        calls.append(call).append(" answered ").append(got).append(", due is ").append(want).append('\n');
        agreed &= got.equals(want);
    }

    private void fill(boolean question, String chars) {
        String kept = chars.substring(0, Math.min(chars.length(), question ? 96 : 240));
        calls.append(question ? "question " : "text ").append(kept).append('\n');
        cut(question, 0);
        for (int i = 0; i < kept.length(); i += 8) {
            String part = kept.substring(i, Math.min(i + 8, kept.length()));
            put(question, Run.word(part), part.length());
        }
    }

    private void put(boolean question, long w, int n) {
        both("put(" + question + ", " + w + ", " + n + ")", () -> program.put(question, w, n) ? 1 : 0,
                () -> model.put(question, w, n) ? 1 : 0);
    }

    private void cut(boolean question, int n) {
        both("cut(" + question + ", " + n + ")", () -> program.cut(question, n) ? 1 : 0,
                () -> model.cut(question, n) ? 1 : 0);
    }

    private void oddInput() {
        for (int i = 0; i < 8; i++) {
            long w = random.nextLong() & (random.nextBoolean() ? 0x7f7f7f7f7f7f7f7fL : 0x3f3f3f3f3f3f3f3fL);
            put(random.nextBoolean(), w | (random.nextBoolean() ? 0x2020202020202020L : 0), random.nextInt(11) - 1);
        }
        cut(random.nextBoolean(), random.nextInt(110) - 3);
        both("load()", program::load, model::load);
        both("ask()", program::ask, model::ask);
    }

    private void lookAtCells() {
        both("columns()", program::columns, model::columns);
        for (int c = -1; c < 7; c++) {
            int column = c;
            both("type(" + c + ")", () -> program.type(column), () -> model.type(column));
            for (int r = -1; r < 17; r += 1 + random.nextInt(3)) {
                int row = r;
                String place = "(" + row + ", " + column + ")";
                both("isMissing" + place, () -> program.isMissing(row, column) ? 1 : 0,
                        () -> model.isMissing(row, column) ? 1 : 0);
                both("value" + place, () -> program.value(row, column), () -> model.value(row, column));
            }
        }
    }

    private void lookAtAnswer() {
        both("fault()", program::fault, model::fault);
        both("lines()", program::lines, model::lines);
        for (int i = -1; i <= Math.max(model.lines(), 0); i++) {
            int k = i;
            both("line(" + k + ")", () -> program.line(k), () -> model.line(k));
            both("aggregate(" + k + ")", () -> program.aggregate(k), () -> model.aggregate(k));
        }
        boolean answer = random.nextInt(4) > 0;
        both("write(" + answer + ")", () -> program.write(answer), () -> model.write(answer));
        both("out(-1)", () -> program.out(-1), () -> model.out(-1));
        for (int i = 0; i <= model.outLength(); i++) {
            int place = i;
            both("out(" + i + ")", () -> program.out(place), () -> model.out(place));
        }
    }

    private String pick(String[] from) {
        return from[random.nextInt(from.length)];
    }

    private String table() {
        columns = 1 + random.nextInt(random.nextInt(40) == 0 ? 7 : 5);
        StringBuilder text = new StringBuilder();
        for (int column = 0; column < columns; column++) {
            kinds[column] = random.nextInt(CELLS.length);
            String name = random.nextInt(200) == 0 ? pick(TOKENS) : NAMES[column % NAMES.length];
            boolean quoted = random.nextInt(20) == 0;
            text.append(column == 0 ? "" : ",").append(quoted ? '"' + name + '"' : name);
        }
        int rows = random.nextInt(random.nextInt(4) == 0 ? 19 : 7);
        for (int row = 0; row < rows; row++) {
            text.append(random.nextInt(8) == 0 ? "\r\n" : "\n");
            int width = random.nextInt(300) == 0 ? columns - 1 : columns;
            for (int column = 0; column < width; column++) {
                // Short cells only, in some tables, so that many rows find room.
                String[] cells = CELLS[kinds[column]];
                String cell = rows > 6 ? cells[random.nextInt(3)] : pick(cells);
                text.append(column == 0 ? "" : ",").append(rows > 6 && cell.length() > 2 ? "5" : cell);
            }
        }
        return text.append(random.nextBoolean() ? "\n" : "").toString();
    }

    private String noise() {
        StringBuilder text = new StringBuilder();
        int length = random.nextInt(24);
        for (int i = 0; i < length; i++) {
            text.append("aab\"\"\",,\n\n\r1".charAt(random.nextInt(12)));
        }
        return (random.nextBoolean() ? "a,b\n" : "") + text;
    }

    private String name() {
        return random.nextInt(60) == 0 ? pick(TOKENS) : NAMES[random.nextInt(Math.min(columns, NAMES.length))];
    }

    private String question() {
        StringBuilder text = new StringBuilder();
        boolean rows = random.nextInt(3) == 0;
        String verb = rows ? "rows" : TOKENS[1 + random.nextInt(4)];
        text.append(verb);
        if (!rows && !verb.equals("count")) {
            text.append(space()).append('(').append(space()).append(name()).append(space()).append(')');
        }
        if (!rows && random.nextBoolean()) {
            text.append(" by ").append(name());
        }
        if (random.nextInt(3) > 0) {
            text.append(" where ").append(condition(random.nextInt(4)));
        }
        if (rows && random.nextBoolean()) {
            text.append(" order ").append(name()).append(random.nextBoolean() ? " desc" : "");
        }
        return text.append(space()).toString();
    }

    private String space() {
        return " ".repeat(Math.max(0, random.nextInt(6) - 4));
    }

    private String condition(int size) {
        if (size > 0) {
            int kind = random.nextInt(10);
            String inside = condition(size - 1);
            return kind < 2 ? "not " + inside : kind < 4 ? "(" + inside + ")"
                    : kind == 4 ? (random.nextBoolean() ? "not " : "(").repeat(4 + random.nextInt(6)) + inside
                    : inside + (kind < 8 ? " and " : " or ") + condition(random.nextInt(size));
        }
        if (random.nextInt(4) == 0) {
            return name() + " is null";
        }
        int column = random.nextInt(Math.min(columns, NAMES.length));
        String right = random.nextInt(4) == 0 ? name() : literalFor(kinds[column]);
        return NAMES[column] + space() + pick(SIGNS) + space() + right;
    }

    private String literalFor(int kind) {
        String cell = pick(CELLS[kind]);
        if (cell.isEmpty() || random.nextInt(10) == 0) {
            return pick(LITERALS);
        }
        return kind < 3 ? cell : "'" + cell.replaceAll("[\"\r\n]", "") + "'";
    }

    private String spoiled(String question) {
        int from = random.nextInt(question.length());
        int to = Math.min(question.length(), from + random.nextInt(5));
        return question.substring(0, from) + (random.nextBoolean() ? pick(TOKENS) : "") + question.substring(to);
    }
}
