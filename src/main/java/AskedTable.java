import java.util.NoSuchElementException;

/** A text of comma-separated values read as a table, questions asked of it, and both written as such texts again. */
public final class AskedTable {
    public static final int NONE = -1;

    private static final int TEXT_LIMIT = 240;
    private static final int QUESTION_LIMIT = 96;
    private static final int MOST_COLUMNS = 6;
    private static final int MOST_ROWS = 16;
    private static final int MOST_CELLS = MOST_COLUMNS * (MOST_ROWS + 1);

    private static final int TYPE_INT = 0;
    private static final int TYPE_LONG = 1;
    private static final int TYPE_DATE = 2;
    private static final int TYPE_TEXT = 3;

    private static final Verb[] VERBS = Verb.values();

    private final Input textInput;
    private final Input questionInput;
    private final Records records;
    private final Table table;
    private final Question asked;
    private final Answer found;
    private final Output output;

    public AskedTable() {
        textInput = new Input(TEXT_LIMIT, true);
        questionInput = new Input(QUESTION_LIMIT, false);
        records = new Records(textInput);
        table = new Table();
        asked = new Question(new Tokens(questionInput), table);
        found = new Answer(table);
        output = new Output();
    }

    public boolean put(boolean question, long w, int n) {
        return inputFor(question).append(w, n);
    }

    public boolean cut(boolean question, int n) {
        return inputFor(question).shorten(n);
    }

    private Input inputFor(boolean ofQuestion) {
        return ofQuestion ? questionInput : textInput;
    }

    public int load() throws IllegalArgumentException, IllegalStateException, NoSuchElementException,
            UnsupportedOperationException {
        // The records are checked to the end before the table is touched: a load that throws leaves it.
        records.split();
        records.check();
        table.take(records);
        found.drop();
        return table.rows;
    }

    public int columns() {
        return table.columns;
    }

    public int type(int column) throws IndexOutOfBoundsException {
        if (column < 0 || column >= table.columns) {
            throw new IndexOutOfBoundsException();
        }
        return table.typeOf(column);
    }

    public boolean isMissing(int row, int column) throws IndexOutOfBoundsException {
        if (!table.hasCell(row, column)) {
            throw new IndexOutOfBoundsException();
        }
        return table.lacks(row, column);
    }

    public long value(int row, int column)
            throws IndexOutOfBoundsException, IllegalStateException, NoSuchElementException {
        if (!table.hasCell(row, column)) {
            throw new IndexOutOfBoundsException();
        }
        if (table.typeOf(column) == TYPE_TEXT) {
            throw new IllegalStateException();
        }
        if (table.lacks(row, column)) {
            throw new NoSuchElementException();
        }
        return table.valueAt(row, column);
    }

    public int ask() throws IllegalStateException, IllegalArgumentException, UnsupportedOperationException {
        if (!table.isThere()) {
            throw new IllegalStateException();
        }
        // Dropped first, so that none is left however the question ends.
        found.drop();
        asked.read();
        found.make(asked);
        return found.lines;
    }

    public int fault() {
        return asked.fault;
    }

    public int lines() {
        return found.lines;
    }

    public int line(int k) throws IllegalStateException, IndexOutOfBoundsException {
        if (!found.isThere()) {
            throw new IllegalStateException();
        }
        if (!found.hasLine(k)) {
            throw new IndexOutOfBoundsException();
        }
        return found.verb == Verb.ROWS ? found.rowAt(k) : found.rowsIn(k);
    }

    public long aggregate(int k) throws IllegalStateException, IndexOutOfBoundsException, NoSuchElementException {
        if (!found.isThere() || !found.hasNumbers()) {
            throw new IllegalStateException();
        }
        if (!found.hasLine(k)) {
            throw new IndexOutOfBoundsException();
        }
        if (found.lacksResult(k)) {
            throw new NoSuchElementException();
        }
        return found.resultAt(k);
    }

    public int write(boolean answer) throws IllegalStateException {
        if (answer ? !found.isThere() : !table.isThere()) {
            throw new IllegalStateException();
        }
        output.clear();
        if (!answer) {
            output.addTable(table);
        } else if (found.verb == Verb.ROWS) {
            output.addRows(table, found);
        } else {
            output.addLines(table, found);
        }
        return output.length;
    }

    public int out(int i) throws IndexOutOfBoundsException {
        if (i < 0 || i >= output.length) {
            throw new IndexOutOfBoundsException();
        }
        return output.chars[i];
    }

    /** What a question asks for: the word that it begins with. */
    private enum Verb {
        ROWS("rows", false),
        COUNT("count", false),
        SUM("sum", true),
        LEAST("least", true),
        MOST("most", true);

        final String word;
        final boolean ofColumn;

        Verb(String word, boolean ofColumn) {
            this.word = word;
            this.ofColumn = ofColumn;
        }
    }

    /** The text or the question: characters that come in behind one another, up to a limit. */
    private static final class Input {
        final char[] chars;
        final boolean lineEndsToo;
        int length;

        Input(int limit, boolean lineEndsToo) {
            chars = new char[limit];
            this.lineEndsToo = lineEndsToo;
            length = 0;
        }

        boolean append(long word, int count) {
            if (count < 1 || count > 8 || count > chars.length - length) {
                return false;
            }
            for (int i = 0; i < count; i++) {
                if (!allows(byteOf(word, i))) {
                    return false;
                }
            }
            for (int i = 0; i < count; i++) {
                chars[length + i] = byteOf(word, i);
            }
            length += count;
            return true;
        }

        boolean shorten(int count) {
            if (count < 0 || count > length) {
                return false;
            }
            length = count;
            return true;
        }

        private boolean allows(char c) {
            return c >= 32 && c <= 126 || lineEndsToo && (c == '\n' || c == '\r');
        }

        private static char byteOf(long word, int place) {
            return (char) (word >>> 8 * place & 255);
        }
    }

    /** Looks at pieces of rows of characters, each from a place up to another that is not in it. */
    private static final class Pieces {
        static boolean isWord(char[] chars, int from, int to, String word) {
            if (to - from != word.length()) {
                return false;
            }
            for (int i = from; i < to; i++) {
                if (chars[i] != word.charAt(i - from)) {
                    return false;
                }
            }
            return true;
        }

        /** Below zero, zero or above, as the first piece is before, like or behind the other one. */
        static int compare(char[] chars, int from, int to, char[] others, int otherFrom, int otherTo) {
            int length = to - from;
            int otherLength = otherTo - otherFrom;
            for (int i = 0; i < length && i < otherLength; i++) {
                int difference = chars[from + i] - others[otherFrom + i];
                if (difference != 0) {
                    return difference;
                }
            }
            return length - otherLength;
        }
    }

    /** Finds whole numbers and dates; what was found last is its value. */
    private static final class Literal {
        private static final long LEAST_LONG = -9223372036854775808L;
        private static final int MOST_DIGITS = 19;
        private static final int[] DAYS = {31, 28, 31, 30, 31, 30, 31, 31, 30, 31, 30, 31};

        long value;

        boolean findsWhole(char[] chars, int from, int to) {
            boolean negative = from < to && chars[from] == '-';
            int first = negative ? from + 1 : from;
            int digits = to - first;
            if (digits < 1 || digits > MOST_DIGITS || chars[first] == '0' && (negative || digits > 1)) {
                return false;
            }
            // Counted below zero, where there is one number more than above.
            long below = 0;
            for (int i = first; i < to; i++) {
                int digit = chars[i] - '0';
                if (digit < 0 || digit > 9 || below < (LEAST_LONG + digit) / 10) {
                    return false;
                }
                below = below * 10 - digit;
            }
            if (!negative && below == LEAST_LONG) {
                return false;
            }
            value = negative ? below : -below;
            return true;
        }

        boolean findsDate(char[] chars, int from, int to) {
            if (to - from != 10 || chars[from + 4] != '-' || chars[from + 7] != '-') {
                return false;
            }
            int year = digits(chars, from, from + 4);
            int month = digits(chars, from + 5, from + 7);
            int day = digits(chars, from + 8, to);
            if (year < 1 || month < 1 || month > 12 || day < 1 || day > daysIn(year, month)) {
                return false;
            }
            value = 10000L * year + 100 * month + day;
            return true;
        }

        private static int digits(char[] chars, int from, int to) {
            int number = 0;
            for (int i = from; i < to; i++) {
                int digit = chars[i] - '0';
                if (digit < 0 || digit > 9) {
                    return NONE;
                }
                number = number * 10 + digit;
            }
            return number;
        }

        private static int daysIn(int year, int month) {
            boolean leap = year % 4 == 0 && (year % 100 != 0 || year % 400 == 0);
            return month == 2 && leap ? 29 : DAYS[month - 1];
        }
    }

    /** The text, split into records and fields, and looked at for all that keeps it from being a table. */
    private static final class Records {
        final Input text;
        final int[] starts;
        final int[] ends;
        final boolean[] quoted;
        int count;
        int width;
        private boolean even;
        private int fields;
        private int at;

        Records(Input text) {
            this.text = text;
            // No table has more fields; those behind are only counted.
            starts = new int[MOST_CELLS];
            ends = new int[MOST_CELLS];
            quoted = new boolean[MOST_CELLS];
        }

        void split() {
            count = 0;
            width = 0;
            even = true;
            fields = 0;
            at = 0;
            // Each record takes one character at least, as an empty one at the text's end is none.
            for (int turn = 0; turn < TEXT_LIMIT && at < text.length; turn++) {
                splitRecord();
            }
        }

        private void splitRecord() {
            int before = fields;
            boolean more = true;
            for (int turn = 0; more && turn <= TEXT_LIMIT; turn++) {
                splitField();
                more = at < text.length && text.chars[at] == ',';
                if (more) {
                    at++;
                }
            }
            passRecordEnd();
            if (count == 0) {
                width = fields - before;
            } else if (fields - before != width) {
                even = false;
            }
            count++;
        }

        private void splitField() {
            boolean marked = at < text.length && text.chars[at] == '"';
            int start = marked ? at + 1 : at;
            int end = marked ? quotedEnd(start) : plainEnd(start);
            if (fields < MOST_CELLS) {
                starts[fields] = start;
                ends[fields] = end;
                quoted[fields] = marked;
            }
            fields++;
            at = marked ? end + 1 : end;
        }

        private int quotedEnd(int start) {
            for (int i = start; i < text.length; i++) {
                if (text.chars[i] == '"') {
                    if (i + 1 >= text.length || text.chars[i + 1] != '"') {
                        return i;
                    }
                    i++;
                }
            }
            throw new IllegalArgumentException();
        }

        private int plainEnd(int start) {
            for (int i = start; i < text.length; i++) {
                char c = text.chars[i];
                if (c == ',' || c == '"' || c == '\n' || c == '\r') {
                    return i;
                }
            }
            return text.length;
        }

        private void passRecordEnd() {
            if (at >= text.length) {
                return;
            }
            if (text.chars[at] == '\r' && at + 1 < text.length && text.chars[at + 1] == '\n') {
                at += 2;
            } else if (text.chars[at] == '\n') {
                at++;
            } else {
                throw new IllegalArgumentException();
            }
        }

        void check() {
            if (!even || width > MOST_COLUMNS) {
                throw new IllegalStateException();
            }
            if (count == 0 || !hasNames()) {
                throw new NoSuchElementException();
            }
            if (count - 1 > MOST_ROWS) {
                throw new UnsupportedOperationException();
            }
        }

        private boolean hasNames() {
            for (int column = 0; column < width; column++) {
                if (!isName(starts[column], ends[column])) {
                    return false;
                }
                for (int earlier = 0; earlier < column; earlier++) {
                    if (Pieces.compare(text.chars, starts[earlier], ends[earlier],
                            text.chars, starts[column], ends[column]) == 0) {
                        return false;
                    }
                }
            }
            return true;
        }

        private boolean isName(int start, int end) {
            if (end - start < 1 || end - start > 6) {
                return false;
            }
            for (int i = start; i < end; i++) {
                if (text.chars[i] < 'a' || text.chars[i] > 'z') {
                    return false;
                }
            }
            return !isKept(start, end, "by") && !isKept(start, end, "where") && !isKept(start, end, "and")
                    && !isKept(start, end, "or") && !isKept(start, end, "not") && !isKept(start, end, "is")
                    && !isKept(start, end, "null") && !isKept(start, end, "order") && !isKept(start, end, "desc");
        }

        private boolean isKept(int start, int end, String word) {
            return Pieces.isWord(text.chars, start, end, word);
        }
    }

    /** The table, with characters of its own: the text may change behind it. */
    private static final class Table {
        final char[] chars;
        int columns;
        int rows;
        private int used;
        private final Literal literal;
        // Of each cell, the names before those of the rows. A kind is a type, or NONE of a missing cell.
        private final int[] starts;
        private final int[] ends;
        private final int[] kinds;
        private final long[] values;
        private final int[] types;

        Table() {
            chars = new char[TEXT_LIMIT];
            literal = new Literal();
            starts = new int[MOST_CELLS];
            ends = new int[MOST_CELLS];
            kinds = new int[MOST_CELLS];
            values = new long[MOST_CELLS];
            types = new int[MOST_COLUMNS];
        }

        void take(Records records) {
            columns = records.width;
            rows = records.count - 1;
            used = 0;
            for (int cell = 0; cell < records.count * columns; cell++) {
                copy(records, cell);
                kinds[cell] = kindOf(cell, records.quoted[cell]);
            }
            for (int column = 0; column < columns; column++) {
                types[column] = findType(column);
            }
        }

        private void copy(Records records, int cell) {
            starts[cell] = used;
            for (int i = records.starts[cell]; i < records.ends[cell]; i++) {
                char c = records.text.chars[i];
                chars[used] = c;
                used++;
                // Only a quoted field has quotation marks in it, and each of them twice.
                if (c == '"') {
                    i++;
                }
            }
            ends[cell] = used;
        }

        private int kindOf(int cell, boolean quoted) {
            if (quoted) {
                return TYPE_TEXT;
            }
            if (starts[cell] == ends[cell]) {
                return NONE;
            }
            if (literal.findsWhole(chars, starts[cell], ends[cell])) {
                values[cell] = literal.value;
                return literal.value == (int) literal.value ? TYPE_INT : TYPE_LONG;
            }
            if (literal.findsDate(chars, starts[cell], ends[cell])) {
                values[cell] = literal.value;
                return TYPE_DATE;
            }
            return TYPE_TEXT;
        }

        private int findType(int column) {
            for (int type = TYPE_INT; type < TYPE_TEXT; type++) {
                if (allFit(column, type)) {
                    return type;
                }
            }
            return TYPE_TEXT;
        }

        private boolean allFit(int column, int type) {
            for (int row = 0; row < rows; row++) {
                int kind = kinds[cellAt(row, column)];
                if (kind != NONE && kind != type && !(kind == TYPE_INT && type == TYPE_LONG)) {
                    return false;
                }
            }
            return true;
        }

        private int cellAt(int row, int column) {
            return (row + 1) * columns + column;
        }

        boolean isThere() {
            return columns > 0;
        }

        boolean hasCell(int row, int column) {
            return row >= 0 && row < rows && column >= 0 && column < columns;
        }

        int typeOf(int column) {
            return types[column];
        }

        boolean hasNumbers(int column) {
            return types[column] == TYPE_INT || types[column] == TYPE_LONG;
        }

        boolean areComparable(int column, int other) {
            return types[column] == types[other] || hasNumbers(column) && hasNumbers(other);
        }

        boolean lacks(int row, int column) {
            return kinds[cellAt(row, column)] == NONE;
        }

        long valueAt(int row, int column) {
            return values[cellAt(row, column)];
        }

        int startOf(int row, int column) {
            return starts[cellAt(row, column)];
        }

        int endOf(int row, int column) {
            return ends[cellAt(row, column)];
        }

        int nameStart(int column) {
            return starts[column];
        }

        int nameEnd(int column) {
            return ends[column];
        }

        /** The column whose name is a piece of others; as names are letters, only a word's piece is one. */
        int columnNamed(char[] others, int from, int to) {
            for (int column = 0; column < columns; column++) {
                if (Pieces.compare(chars, starts[column], ends[column], others, from, to) == 0) {
                    return column;
                }
            }
            return NONE;
        }

        /** The order of a cell and a piece of others; the cell is not missing. */
        int compareToPiece(int row, int column, char[] others, int from, int to) {
            int cell = cellAt(row, column);
            return Pieces.compare(chars, starts[cell], ends[cell], others, from, to);
        }

        /** The order of two cells of comparable columns; none of them is missing. */
        int compareCells(int row, int column, int otherRow, int otherColumn) {
            int cell = cellAt(row, column);
            int other = cellAt(otherRow, otherColumn);
            if (types[column] == TYPE_TEXT) {
                return Pieces.compare(chars, starts[cell], ends[cell], chars, starts[other], ends[other]);
            }
            return Long.compare(values[cell], values[other]);
        }

        /** The order of two rows by a column, missing cells before all others. */
        int compareRows(int row, int other, int column) {
            boolean rowLacks = lacks(row, column);
            boolean otherLacks = lacks(other, column);
            if (rowLacks || otherLacks) {
                return rowLacks == otherLacks ? 0 : rowLacks ? -1 : 1;
            }
            return compareCells(row, column, other, column);
        }
    }

    /** The question's tokens, one at a time. */
    private static final class Tokens {
        static final int END = 0;
        static final int WORD = 1;
        static final int DIGITS = 2;
        static final int QUOTED = 3;
        static final int OPEN = 4;
        static final int CLOSE = 5;
        static final int SIGN = 6;
        static final int WRONG = 7;

        // A sign is the sum of the orders that it allows.
        static final int LESS = 1;
        static final int EQUAL = 2;
        static final int GREATER = 4;

        final char[] chars;
        int kind;
        int start;
        int end;
        int sign;
        private final Input question;

        Tokens(Input question) {
            this.question = question;
            chars = question.chars;
        }

        void restart() {
            end = 0;
            next();
        }

        void next() {
            start = end;
            while (start < question.length && chars[start] == ' ') {
                start++;
            }
            if (start >= question.length) {
                kind = END;
                end = start;
                return;
            }
            kind = kindOf(chars[start]);
            end = start + 1;
            if (kind == WORD || kind == DIGITS) {
                while (end < question.length && kindOf(chars[end]) == kind) {
                    end++;
                }
            } else if (kind == QUOTED) {
                readQuoted();
            } else if (kind == SIGN) {
                readSign();
            }
        }

        /** The kind of token that a character begins (and of words and digits, goes on with). */
        private static int kindOf(char c) {
            if (c >= 'a' && c <= 'z') {
                return WORD;
            }
            if (c >= '0' && c <= '9' || c == '-') {
                return DIGITS;
            }
            if (c == '\'') {
                return QUOTED;
            }
            if (c == '(') {
                return OPEN;
            }
            if (c == ')') {
                return CLOSE;
            }
            return c == '<' || c == '=' || c == '>' ? SIGN : WRONG;
        }

        private void readQuoted() {
            while (end < question.length && chars[end] != '\'') {
                end++;
            }
            if (end < question.length) {
                end++;
            } else {
                kind = WRONG;
            }
        }

        private void readSign() {
            char c = chars[start];
            char behind = end < question.length ? chars[end] : ' ';
            sign = c == '<' ? LESS : c == '=' ? EQUAL : GREATER;
            if (sign != EQUAL && behind == '=') {
                sign += EQUAL;
                end++;
            } else if (sign == LESS && behind == '>') {
                sign += GREATER;
                end++;
            }
        }

        boolean isWord(String word) {
            return kind == WORD && Pieces.isWord(chars, start, end, word);
        }
    }

    /**
     * What a condition is of all rows at once: the lower half has a bit for each row of which it is true,
     * the upper half one for each of which it is false; unknown is neither.
     */
    private static final class Truth {
        static final int UNKNOWN = 0;
        static final int HALF = 16;
        static final int TRUE = (1 << HALF) - 1;
        static final int FALSE = ~TRUE;

        static int ofRow(int row, boolean holds) {
            return 1 << (holds ? row : row + HALF);
        }

        static int ofOrder(int row, int sign, int order) {
            int found = order < 0 ? Tokens.LESS : order == 0 ? Tokens.EQUAL : Tokens.GREATER;
            return ofRow(row, (sign & found) != 0);
        }

        static int not(int truth) {
            return truth >>> HALF | truth << HALF;
        }

        static int and(int one, int other) {
            return one & other & TRUE | (one | other) & FALSE;
        }

        static int or(int one, int other) {
            return (one | other) & TRUE | one & other & FALSE;
        }
    }

    /** The question as it is read: by its grammar, its condition being worked out on the way. */
    private static final class Question {
        private static final int DEEPEST = 8;

        Verb verb;
        int column;
        int group;
        int order;
        boolean descending;
        int fault;
        private int truth;
        private final Tokens tokens;
        private final Table table;
        private final Literal literal;

        Question(Tokens tokens, Table table) {
            this.tokens = tokens;
            this.table = table;
            literal = new Literal();
            verb = Verb.ROWS;
            fault = NONE;
        }

        boolean chooses(int row) {
            return (truth & Truth.ofRow(row, true)) != 0;
        }

        void read() {
            fault = NONE;
            column = NONE;
            group = NONE;
            order = NONE;
            descending = false;
            truth = Truth.TRUE;
            tokens.restart();
            readVerb();
            if (verb != Verb.ROWS && takesWord("by")) {
                group = takeName();
            }
            if (takesWord("where")) {
                truth = condition(0);
            }
            if (verb == Verb.ROWS && takesWord("order")) {
                order = takeName();
                descending = takesWord("desc");
            }
            require(tokens.kind == Tokens.END);
        }

        private void require(boolean fits) {
            if (!fits) {
                fault = tokens.start;
                throw new IllegalArgumentException();
            }
        }

        private boolean takesWord(String word) {
            boolean taken = tokens.isWord(word);
            if (taken) {
                tokens.next();
            }
            return taken;
        }

        private void takeKind(int kind) {
            require(tokens.kind == kind);
            tokens.next();
        }

        private int takeName() {
            int named = table.columnNamed(tokens.chars, tokens.start, tokens.end);
            require(named != NONE);
            tokens.next();
            return named;
        }

        private void readVerb() {
            boolean found = false;
            for (int i = 0; i < VERBS.length && !found; i++) {
                verb = VERBS[i];
                found = tokens.isWord(verb.word);
            }
            require(found);
            tokens.next();
            if (verb.ofColumn) {
                takeKind(Tokens.OPEN);
                column = table.columnNamed(tokens.chars, tokens.start, tokens.end);
                require(column != NONE && (verb != Verb.SUM || table.hasNumbers(column)));
                tokens.next();
                takeKind(Tokens.CLOSE);
            }
        }

        private int condition(int depth) {
            int any = Truth.FALSE;
            int all = part(depth);
            boolean more = true;
            for (int turn = 0; more && turn < QUESTION_LIMIT; turn++) {
                if (takesWord("and")) {
                    all = Truth.and(all, part(depth));
                } else if (takesWord("or")) {
                    any = Truth.or(any, all);
                    all = part(depth);
                } else {
                    more = false;
                }
            }
            return Truth.or(any, all);
        }

        private int part(int depth) {
            boolean denied = tokens.isWord("not");
            if (!denied && tokens.kind != Tokens.OPEN) {
                return comparison();
            }
            require(depth < DEEPEST);
            tokens.next();
            if (denied) {
                return Truth.not(part(depth + 1));
            }
            int inside = condition(depth + 1);
            takeKind(Tokens.CLOSE);
            return inside;
        }

        private int comparison() {
            int left = takeName();
            if (takesWord("is")) {
                require(tokens.isWord("null"));
                tokens.next();
                return whereMissing(left);
            }
            int sign = tokens.sign;
            takeKind(Tokens.SIGN);
            int compared = tokens.kind == Tokens.WORD ? againstColumn(left, sign) : againstLiteral(left, sign);
            tokens.next();
            return compared;
        }

        private int whereMissing(int left) {
            int found = Truth.UNKNOWN;
            for (int row = 0; row < table.rows; row++) {
                found |= Truth.ofRow(row, table.lacks(row, left));
            }
            return found;
        }

        private int againstColumn(int left, int sign) {
            int right = table.columnNamed(tokens.chars, tokens.start, tokens.end);
            require(right != NONE && table.areComparable(left, right));
            int found = Truth.UNKNOWN;
            for (int row = 0; row < table.rows; row++) {
                if (!table.lacks(row, left) && !table.lacks(row, right)) {
                    found |= Truth.ofOrder(row, sign, table.compareCells(row, left, row, right));
                }
            }
            return found;
        }

        private int againstLiteral(int left, int sign) {
            boolean asText = table.typeOf(left) == TYPE_TEXT;
            require(tokens.kind == (asText ? Tokens.QUOTED : Tokens.DIGITS));
            if (table.typeOf(left) == TYPE_DATE) {
                require(literal.findsDate(tokens.chars, tokens.start, tokens.end));
            } else if (!asText) {
                require(literal.findsWhole(tokens.chars, tokens.start, tokens.end));
            }
            int found = Truth.UNKNOWN;
            for (int row = 0; row < table.rows; row++) {
                if (!table.lacks(row, left)) {
                    int place = asText
                            ? table.compareToPiece(row, left, tokens.chars, tokens.start + 1, tokens.end - 1)
                            : Long.compare(table.valueAt(row, left), literal.value);
                    found |= Truth.ofOrder(row, sign, place);
                }
            }
            return found;
        }
    }

    /** The answer: the chosen rows in their order, and for an aggregate, where the lines part them. */
    private static final class Answer {
        Verb verb;
        int column;
        int group;
        int lines;
        private int count;
        private final int[] rows;
        private final int[] lineStarts;
        // The number that is the result of a line; of least and most it is the row whose cell has it.
        private final long[] results;
        private final boolean[] lacking;
        private final Table table;

        Answer(Table table) {
            this.table = table;
            verb = Verb.ROWS;
            lines = NONE;
            rows = new int[MOST_ROWS];
            lineStarts = new int[MOST_ROWS + 1];
            results = new long[MOST_ROWS];
            lacking = new boolean[MOST_ROWS];
        }

        void drop() {
            lines = NONE;
        }

        boolean isThere() {
            return lines != NONE;
        }

        boolean hasLine(int k) {
            return k >= 0 && k < lines;
        }

        int rowAt(int k) {
            return rows[k];
        }

        int rowsIn(int k) {
            return lineStarts[k + 1] - lineStarts[k];
        }

        /** A row whose cell in the group's column is the one of line k. */
        int firstRowIn(int k) {
            return rows[lineStarts[k]];
        }

        boolean isOfCell() {
            return verb == Verb.LEAST || verb == Verb.MOST;
        }

        boolean hasNumbers() {
            return verb != Verb.ROWS && !(isOfCell() && table.typeOf(column) == TYPE_TEXT);
        }

        boolean lacksResult(int k) {
            return lacking[k];
        }

        long resultAt(int k) {
            return isOfCell() ? table.valueAt(bestRow(k), column) : results[k];
        }

        int bestRow(int k) {
            return (int) results[k];
        }

        void make(Question question) {
            verb = question.verb;
            column = question.column;
            group = question.group;
            choose(question);
            if (verb == Verb.ROWS) {
                sort(question.order, question.descending);
                lines = count;
                return;
            }
            sort(group, false);
            int made = partLines();
            for (int k = 0; k < made; k++) {
                putTogether(k);
            }
            lines = made;
        }

        private void choose(Question question) {
            count = 0;
            for (int row = 0; row < table.rows; row++) {
                if (question.chooses(row)) {
                    rows[count] = row;
                    count++;
                }
            }
        }

        private void sort(int by, boolean descending) {
            if (by == NONE) {
                return;
            }
            for (int i = 1; i < count; i++) {
                int row = rows[i];
                int place = i;
                while (place > 0 && isBefore(row, rows[place - 1], by, descending)) {
                    rows[place] = rows[place - 1];
                    place--;
                }
                rows[place] = row;
            }
        }

        private boolean isBefore(int row, int other, int by, boolean descending) {
            int order = table.compareRows(row, other, by);
            return descending ? order > 0 : order < 0;
        }

        private int partLines() {
            int made = 0;
            if (group == NONE) {
                lineStarts[0] = 0;
                made = 1;
            } else {
                for (int i = 0; i < count; i++) {
                    if (i == 0 || table.compareRows(rows[i - 1], rows[i], group) != 0) {
                        lineStarts[made] = i;
                        made++;
                    }
                }
            }
            lineStarts[made] = count;
            return made;
        }

        private void putTogether(int k) {
            if (verb == Verb.COUNT) {
                lacking[k] = false;
                results[k] = rowsIn(k);
            } else if (verb == Verb.SUM) {
                sumUp(k);
            } else {
                findBest(k);
            }
        }

        private void sumUp(int k) {
            lacking[k] = true;
            long sum = 0;
            for (int i = lineStarts[k]; i < lineStarts[k + 1]; i++) {
                if (!table.lacks(rows[i], column)) {
                    long before = sum;
                    long value = table.valueAt(rows[i], column);
                    sum += value;
                    // Beyond a long, the sum has another sign than both that went into it.
                    if (((before ^ sum) & (value ^ sum)) < 0) {
                        throw new UnsupportedOperationException();
                    }
                    lacking[k] = false;
                }
            }
            results[k] = sum;
        }

        private void findBest(int k) {
            lacking[k] = true;
            int best = NONE;
            for (int i = lineStarts[k]; i < lineStarts[k + 1]; i++) {
                if (!table.lacks(rows[i], column)
                        && (best == NONE || isBefore(rows[i], best, column, verb == Verb.MOST))) {
                    best = rows[i];
                    lacking[k] = false;
                }
            }
            results[k] = best;
        }
    }

    /** OUT, and how a table or an answer is put into it. */
    private static final class Output {
        // The longest is least of a column of texts by itself, 546: each of 16 cells twice, 15 of them marked anew.
        private static final int LIMIT = 768;

        final char[] chars;
        int length;
        private final Literal literal;

        Output() {
            chars = new char[LIMIT];
            literal = new Literal();
        }

        void clear() {
            length = 0;
        }

        void addTable(Table table) {
            addNames(table);
            for (int row = 0; row < table.rows; row++) {
                addRow(table, row);
            }
        }

        void addRows(Table table, Answer answer) {
            addNames(table);
            for (int k = 0; k < answer.lines; k++) {
                addRow(table, answer.rowAt(k));
            }
        }

        void addLines(Table table, Answer answer) {
            if (answer.group != NONE) {
                addName(table, answer.group);
                add(',');
            }
            addWord(answer.verb.word);
            add('\n');
            for (int k = 0; k < answer.lines; k++) {
                if (answer.group != NONE) {
                    addCell(table, answer.firstRowIn(k), answer.group);
                    add(',');
                }
                addResult(table, answer, k);
                add('\n');
            }
        }

        private void addNames(Table table) {
            for (int column = 0; column < table.columns; column++) {
                if (column > 0) {
                    add(',');
                }
                addName(table, column);
            }
            add('\n');
        }

        private void addName(Table table, int column) {
            addPiece(table.chars, table.nameStart(column), table.nameEnd(column));
        }

        private void addRow(Table table, int row) {
            for (int column = 0; column < table.columns; column++) {
                if (column > 0) {
                    add(',');
                }
                addCell(table, row, column);
            }
            add('\n');
        }

        private void addResult(Table table, Answer answer, int k) {
            if (answer.lacksResult(k)) {
                return;
            }
            if (answer.isOfCell()) {
                addCell(table, answer.bestRow(k), answer.column);
            } else {
                addNumber(answer.resultAt(k));
            }
        }

        private void addCell(Table table, int row, int column) {
            if (table.lacks(row, column)) {
                return;
            }
            int start = table.startOf(row, column);
            int end = table.endOf(row, column);
            if (table.typeOf(column) == TYPE_TEXT && needsMarks(table.chars, start, end)) {
                addMarked(table.chars, start, end);
            } else {
                addPiece(table.chars, start, end);
            }
        }

        private boolean needsMarks(char[] from, int start, int end) {
            for (int i = start; i < end; i++) {
                char c = from[i];
                if (c == ',' || c == '"' || c == '\n' || c == '\r') {
                    return true;
                }
            }
            return start == end || literal.findsWhole(from, start, end) || literal.findsDate(from, start, end);
        }

        private void addMarked(char[] from, int start, int end) {
            add('"');
            for (int i = start; i < end; i++) {
                if (from[i] == '"') {
                    add('"');
                }
                add(from[i]);
            }
            add('"');
        }

        private void addPiece(char[] from, int start, int end) {
            for (int i = start; i < end; i++) {
                add(from[i]);
            }
        }

        private void addWord(String word) {
            for (int i = 0; i < word.length(); i++) {
                add(word.charAt(i));
            }
        }

        private void addNumber(long number) {
            if (number < 0) {
                add('-');
            }
            // Taken below zero, where there is one number more than above.
            long below = number < 0 ? number : -number;
            long unit = 1;
            for (int digits = 1; digits < Literal.MOST_DIGITS && below / unit <= -10; digits++) {
                unit *= 10;
            }
            for (; unit > 0; unit /= 10) {
                add((char) ('0' - below / unit % 10));
            }
        }

        private void add(char c) {
            if (length < chars.length) {
                chars[length] = c;
                length++;
            }
        }
    }
}
