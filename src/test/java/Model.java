import java.math.BigInteger;
import java.time.DateTimeException;
import java.time.LocalDate;
import java.util.ArrayDeque;
import java.util.ArrayList;
import java.util.Comparator;
import java.util.Deque;
import java.util.List;
import java.util.Map;
import java.util.NoSuchElementException;
import java.util.Set;
import java.util.TreeMap;
import java.util.regex.Matcher;
import java.util.regex.Pattern;

/**
 * The document once more, by other means than the program's (strings, maps, big numbers, a table of states with
 * a stack instead of a recursive reader), so that the two are not wrong in the same way.
 */
final class Model {
    private static final Set<String> KEPT =
            Set.of("by", "where", "and", "or", "not", "is", "null", "order", "desc");
    private static final Pattern TOKEN =
            Pattern.compile(" *([a-z]+|[0-9-]+|'[^']*'|'[^']*$|<>|<=|>=|[^ ])");
    private static final BigInteger LEAST = BigInteger.ONE.shiftLeft(63).negate();
    private static final BigInteger GREATEST = BigInteger.ONE.shiftLeft(63).subtract(BigInteger.ONE);

    /** A cell that is not missing; those that are missing are null. */
    private record Cell(String text, boolean quoted) {
        boolean fits(int type) {
            return type == 3 || !quoted && (type == 2 ? date(text) != null : fitsNumber(type));
        }

        private boolean fitsNumber(int type) {
            BigInteger number = whole(text);
            return number != null && (type == 1 || number.bitLength() < 32);
        }
    }

    /** A line of an aggregate's answer. */
    private record Line(Object group, int rows, Object result) { }

    private record Token(String text, int place) { }

    private final StringBuilder text = new StringBuilder();
    private final StringBuilder question = new StringBuilder();
    private List<String> names;
    private List<List<Cell>> rows;
    private final List<Integer> types = new ArrayList<>();
    private int fault = -1;
    private List<Integer> rowAnswer;
    private List<Line> lineAnswer;
    private String verb;
    private String summed;
    private String group;
    private String out = "";

    boolean put(boolean ofQuestion, long w, int n) {
        if (n < 1 || n > 8) {
            return false;
        }
        StringBuilder more = new StringBuilder();
        for (int i = 0; i < n; i++) {
            more.append((char) (w >> 8 * i & 0xFF));
        }
        StringBuilder to = ofQuestion ? question : text;
        boolean fits = more.toString().matches(ofQuestion ? "[ -~]*" : "[ -~\n\r]*");
        if (!fits || to.length() + n > (ofQuestion ? 96 : 240)) {
            return false;
        }
        to.append(more);
        return true;
    }

    boolean cut(boolean ofQuestion, int n) {
        StringBuilder from = ofQuestion ? question : text;
        if (n < 0 || n > from.length()) {
            return false;
        }
        from.setLength(n);
        return true;
    }

    int load() {
        List<List<Cell>> records = records(text.toString());
        int width = records.isEmpty() ? 0 : records.get(0).size();
        if (width > 6 || records.stream().anyMatch(r -> r.size() != width)) {
            throw new IllegalStateException();
        }
        List<String> found = new ArrayList<>();
        for (Cell cell : records.isEmpty() ? List.<Cell>of() : records.get(0)) {
            String name = cell == null ? "" : cell.text;
            if (!name.matches("[a-z]{1,6}") || KEPT.contains(name) || found.contains(name)) {
                throw new NoSuchElementException();
            }
            found.add(name);
        }
        if (found.isEmpty()) {
            throw new NoSuchElementException();
        }
        if (records.size() > 17) {
            throw new UnsupportedOperationException();
        }
        names = found;
        rows = records.subList(1, records.size());
        types.clear();
        for (int column = 0; column < names.size(); column++) {
            types.add(findType(column));
        }
        dropAnswer();
        return rows.size();
    }

    /** Splits by states, a character at a time: at a field's start, in a plain or quoted one, behind a mark. */
    private static List<List<Cell>> records(String text) {
        List<List<Cell>> records = new ArrayList<>();
        List<Cell> record = new ArrayList<>();
        StringBuilder field = new StringBuilder();
        char state = 's';
        boolean begun = false;
        for (int i = 0; i < text.length(); i++) {
            char c = text.charAt(i);
            begun = true;
            if (state == 'q') {
                if (c == '"') {
                    state = 'm';
                } else {
                    field.append(c);
                }
            } else if (c == '"' && state != 'p') {
                if (state == 'm') {
                    field.append(c);
                }
                state = 'q';
            } else if (c == ',' || c == '\n' || text.startsWith("\r\n", i)) {
                record.add(state == 's' ? null : new Cell(field.toString(), state == 'm'));
                field.setLength(0);
                state = 's';
                if (c != ',') {
                    i += c == '\r' ? 1 : 0;
                    records.add(record);
                    record = new ArrayList<>();
                    begun = false;
                }
            } else if (c == '\r' || c == '"' || state == 'm') {
                throw new IllegalArgumentException();
            } else {
                field.append(c);
                state = 'p';
            }
        }
        if (state == 'q') {
            throw new IllegalArgumentException();
        }
        if (begun) {
            record.add(state == 's' ? null : new Cell(field.toString(), state == 'm'));
            records.add(record);
        }
        return records;
    }

    private static BigInteger whole(String text) {
        if (!text.matches("0|-?[1-9][0-9]*")) {
            return null;
        }
        BigInteger number = new BigInteger(text);
        return number.compareTo(LEAST) < 0 || number.compareTo(GREATEST) > 0 ? null : number;
    }

    private static Long date(String text) {
        if (!text.matches("[0-9]{4}-[0-9]{2}-[0-9]{2}") || text.startsWith("0000")) {
            return null;
        }
        try {
            LocalDate.of(Integer.parseInt(text.substring(0, 4)), Integer.parseInt(text.substring(5, 7)),
                    Integer.parseInt(text.substring(8)));
        } catch (DateTimeException none) {
            return null;
        }
        return Long.valueOf(text.replace("-", ""));
    }

    int columns() {
        return names == null ? 0 : names.size();
    }

    int type(int column) {
        if (column < 0 || column >= columns()) {
            throw new IndexOutOfBoundsException();
        }
        return types.get(column);
    }

    private int findType(int column) {
        for (int type = 0; ; type++) {
            int tried = type;
            if (rows.stream().map(r -> r.get(column)).allMatch(c -> c == null || c.fits(tried))) {
                return type;
            }
        }
    }

    boolean isMissing(int row, int column) {
        if (column < 0 || column >= columns() || row < 0 || row >= rows.size()) {
            throw new IndexOutOfBoundsException();
        }
        return rows.get(row).get(column) == null;
    }

    long value(int row, int column) {
        boolean missing = isMissing(row, column);
        if (type(column) == 3) {
            throw new IllegalStateException();
        }
        if (missing) {
            throw new NoSuchElementException();
        }
        return (Long) valueOf(row, column);
    }

    /** A Long, a String, or null for what is missing. */
    private Object valueOf(int row, int column) {
        Cell cell = rows.get(row).get(column);
        return cell == null ? null : valueOf(cell.text, type(column));
    }

    private static Object valueOf(String text, int type) {
        return type == 3 ? text : type == 2 ? (Object) date(text) : (Object) whole(text).longValue();
    }

    private static int compare(Object one, Object other) {
        if (one == null || other == null) {
            return one == other ? 0 : one == null ? -1 : 1;
        }
        return one instanceof Long number ? number.compareTo((Long) other) : ((String) one).compareTo((String) other);
    }

    private void dropAnswer() {
        rowAnswer = null;
        lineAnswer = null;
    }

    int ask() {
        if (names == null) {
            throw new IllegalStateException();
        }
        dropAnswer();
        Asking asking = new Asking();
        fault = asking.read();
        if (fault != -1) {
            throw new IllegalArgumentException();
        }
        List<Integer> chosen = new ArrayList<>();
        for (int row = 0; row < rows.size(); row++) {
            if (asking.postfix.isEmpty() || Boolean.TRUE.equals(asking.holds(row))) {
                chosen.add(row);
            }
        }
        verb = asking.verb;
        summed = asking.summed;
        group = asking.group;
        if (verb.equals("rows")) {
            if (asking.order != null) {
                int by = names.indexOf(asking.order);
                Comparator<Integer> order = (a, b) -> compare(valueOf(a, by), valueOf(b, by));
                chosen.sort(asking.desc ? order.reversed() : order);
            }
            rowAnswer = chosen;
        } else {
            lineAnswer = linesOf(chosen);
        }
        return lines();
    }

    private List<Line> linesOf(List<Integer> chosen) {
        List<Line> made = new ArrayList<>();
        if (group == null) {
            made.add(new Line(null, chosen.size(), together(chosen)));
            return made;
        }
        Map<Object, List<Integer>> groups = new TreeMap<>(Model::compare);
        for (int row : chosen) {
            groups.computeIfAbsent(valueOf(row, names.indexOf(group)), k -> new ArrayList<>()).add(row);
        }
        groups.forEach((value, list) -> made.add(new Line(value, list.size(), together(list))));
        return made;
    }

    private Object together(List<Integer> chosen) {
        if (verb.equals("count")) {
            return (long) chosen.size();
        }
        List<Object> values = new ArrayList<>();
        for (int row : chosen) {
            Object value = valueOf(row, names.indexOf(summed));
            if (value != null) {
                values.add(value);
            }
        }
        if (values.isEmpty()) {
            return null;
        }
        if (!verb.equals("sum")) {
            values.sort(Model::compare);
            return values.get(verb.equals("least") ? 0 : values.size() - 1);
        }
        BigInteger sum = BigInteger.ZERO;
        for (Object value : values) {
            sum = sum.add(BigInteger.valueOf((Long) value));
            if (sum.compareTo(LEAST) < 0 || sum.compareTo(GREATEST) > 0) {
                throw new UnsupportedOperationException();
            }
        }
        return sum.longValue();
    }

    int fault() {
        return fault;
    }

    int lines() {
        return rowAnswer != null ? rowAnswer.size() : lineAnswer != null ? lineAnswer.size() : -1;
    }

    int line(int k) {
        if (lines() == -1) {
            throw new IllegalStateException();
        }
        return rowAnswer != null ? rowAnswer.get(k) : lineAnswer.get(k).rows;
    }

    long aggregate(int k) {
        boolean ofText = lineAnswer != null && summed != null && type(names.indexOf(summed)) == 3;
        if (lineAnswer == null || ofText) {
            throw new IllegalStateException();
        }
        if (lineAnswer.get(k).result == null) {
            throw new NoSuchElementException();
        }
        return (Long) lineAnswer.get(k).result;
    }

    int write(boolean answer) {
        if (answer ? lines() == -1 : names == null) {
            throw new IllegalStateException();
        }
        StringBuilder written = new StringBuilder();
        if (answer && lineAnswer != null) {
            written.append(group == null ? "" : group + ",").append(verb).append('\n');
            for (Line line : lineAnswer) {
                if (group != null) {
                    written.append(typed(line.group, type(names.indexOf(group)))).append(',');
                }
                int type = summed == null ? 0 : type(names.indexOf(summed));
                written.append(typed(line.result, type)).append('\n');
            }
        } else {
            written.append(String.join(",", names)).append('\n');
            for (int row = 0; row < (answer ? rowAnswer.size() : rows.size()); row++) {
                List<String> cells = new ArrayList<>();
                for (int column = 0; column < names.size(); column++) {
                    cells.add(typed(valueOf(answer ? rowAnswer.get(row) : row, column), type(column)));
                }
                written.append(String.join(",", cells)).append('\n');
            }
        }
        out = written.toString();
        return out.length();
    }

    private static String typed(Object value, int type) {
        if (value == null) {
            return "";
        }
        if (type < 2) {
            return value.toString();
        }
        if (type == 2) {
            return String.format("%08d", value).replaceAll("(....)(..)(..)", "$1-$2-$3");
        }
        String text = (String) value;
        boolean marks = text.isEmpty() || text.matches("(?s).*[,\"\n\r].*") || whole(text) != null
                || date(text) != null;
        return marks ? '"' + text.replace("\"", "\"\"") + '"' : text;
    }

    int outLength() {
        return out.length();
    }

    int out(int i) {
        if (i < 0 || i >= out.length()) {
            throw new IndexOutOfBoundsException();
        }
        return out.charAt(i);
    }

    /** Reads the question by states, and the condition by a stack of what waits for its end. */
    private final class Asking {
        String verb;
        String summed;
        String group;
        String order;
        boolean desc;
        final List<Object> postfix = new ArrayList<>();
        private final Deque<String> waiting = new ArrayDeque<>();
        private String left;
        private String sign;

        int read() {
            String state = "verb";
            for (Token token : tokens()) {
                state = after(state, token.text);
                if (state == null) {
                    return token.place;
                }
            }
            boolean mayEnd = Set.of("rows", "aggregate", "grouped", "ordered", "done").contains(state)
                    || state.equals("part done") && !waiting.contains("(");
            if (!mayEnd) {
                return question.length();
            }
            while (!waiting.isEmpty()) {
                postfix.add(waiting.pop());
            }
            return -1;
        }

        private List<Token> tokens() {
            List<Token> tokens = new ArrayList<>();
            Matcher matcher = TOKEN.matcher(question);
            while (matcher.find()) {
                tokens.add(new Token(matcher.group(1), matcher.start(1)));
            }
            return tokens;
        }

        /** The state behind a token, or null if it can't stand there. */
        private String after(String state, String token) {
            boolean name = names.contains(token);
            switch (state) {
                case "verb":
                    verb = token;
                    return token.equals("rows") ? "rows" : token.equals("count") ? "aggregate"
                            : Set.of("sum", "least", "most").contains(token) ? "open" : null;
                case "open":
                    return token.equals("(") ? "summed" : null;
                case "summed":
                    summed = token;
                    return name && (!verb.equals("sum") || type(names.indexOf(token)) < 2) ? "close" : null;
                case "close":
                    return token.equals(")") ? "aggregate" : null;
                case "rows":
                    return token.equals("where") ? "part" : token.equals("order") ? "order" : null;
                case "aggregate":
                    return token.equals("by") ? "group" : token.equals("where") ? "part" : null;
                case "group":
                    group = token;
                    return name ? "grouped" : null;
                case "grouped":
                    return token.equals("where") ? "part" : null;
                case "order":
                    order = token;
                    return name ? "ordered" : null;
                case "ordered":
                    desc = token.equals("desc");
                    return desc ? "done" : null;
                case "done":
                    return null;
                default:
                    return afterInCondition(state, token, name);
            }
        }

        private String afterInCondition(String state, String token, boolean name) {
            switch (state) {
                case "part":
                    if (token.equals("not") || token.equals("(")) {
                        long deep = waiting.stream().filter(w -> w.equals("not") || w.equals("(")).count();
                        waiting.push(token);
                        return deep < 8 ? "part" : null;
                    }
                    left = token;
                    return name ? "sign" : null;
                case "sign":
                    sign = token;
                    return token.equals("is") ? "null"
                            : Set.of("=", "<>", "<", "<=", ">", ">=").contains(token) ? "right" : null;
                case "null":
                    return token.equals("null") ? partDone(token) : null;
                case "right":
                    return isComparable(token, name) ? partDone(token) : null;
                default:
                    return behindPart(token);
            }
        }

        private boolean isComparable(String token, boolean name) {
            int type = Math.max(type(names.indexOf(left)), 1);
            return name ? Math.max(type(names.indexOf(token)), 1) == type
                    : type == 1 ? whole(token) != null : type == 2 ? date(token) != null
                    : token.matches("'[^']*'");
        }

        private String partDone(String right) {
            postfix.add(new String[] {left, sign, right});
            applyNots();
            return "part done";
        }

        private void applyNots() {
            while ("not".equals(waiting.peek())) {
                postfix.add(waiting.pop());
            }
        }

        private String behindPart(String token) {
            if (token.equals("order")) {
                return verb.equals("rows") && !waiting.contains("(") ? "order" : null;
            }
            if (token.equals("and") || token.equals("or")) {
                while (!waiting.isEmpty() && !waiting.peek().equals("(")
                        && (token.equals("or") || waiting.peek().equals("and"))) {
                    postfix.add(waiting.pop());
                }
                waiting.push(token);
                return "part";
            }
            if (!token.equals(")") || !waiting.contains("(")) {
                return null;
            }
            while (!waiting.peek().equals("(")) {
                postfix.add(waiting.pop());
            }
            waiting.pop();
            applyNots();
            return "part done";
        }

        /** True, false or, for unknown, null. */
        Boolean holds(int row) {
            List<Boolean> values = new ArrayList<>();
            for (Object step : postfix) {
                if (step instanceof String[] comparison) {
                    values.add(compared(row, comparison));
                    continue;
                }
                Boolean last = values.remove(values.size() - 1);
                if (step.equals("not")) {
                    values.add(last == null ? null : Boolean.valueOf(!last));
                } else {
                    Boolean deciding = step.equals("or");
                    Boolean first = values.remove(values.size() - 1);
                    values.add(deciding.equals(first) || deciding.equals(last) ? deciding
                            : first == null || last == null ? null : Boolean.valueOf(!deciding));
                }
            }
            return values.get(0);
        }

        private Boolean compared(int row, String[] comparison) {
            int column = names.indexOf(comparison[0]);
            Object value = valueOf(row, column);
            if (comparison[1].equals("is")) {
                return value == null;
            }
            Object other = names.contains(comparison[2]) ? valueOf(row, names.indexOf(comparison[2]))
                    : valueOf(comparison[2].replace("'", ""), type(column));
            if (value == null || other == null) {
                return null;
            }
            int order = compare(value, other);
            return comparison[1].contains(order < 0 ? "<" : order == 0 ? "=" : ">");
        }
    }
}
