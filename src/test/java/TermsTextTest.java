/** "Terms", what they say of the text, the question, records, fields, the header and rows: each sentence on its own. */
public final class TermsTextTest {
    private static final String ILLEGAL = "IllegalArgumentException";
    private static final String UNEVEN = "IllegalStateException";
    private static final String UNNAMED = "NoSuchElementException";
    private static final String TOO_MANY = "UnsupportedOperationException";

    public static void main(String[] args) {
        textLength();
        questionLength();
        characters(false);
        characters(true);
        letters();
        digits();
        recordEnds();
        lastRecord();
        fieldsOfARecord();
        quotedFields();
        plainFields();
        asManyFields();
        atMostSixFields();
        plainAndQuotedNames();
        lengthsOfNames();
        namesTwice();
        wordsThatAreNoNames();
        sixteenRows();
        rowNumbers();
        Run.finish();
    }

    private static void dueLoad(String text, String want) {
        Run.due("load of [" + text + "]", new Run().load(text), want);
    }

    private static void dueTable(String text, String want) {
        Run run = new Run();
        run.load(text);
        Run.due("table of [" + text + "]", run.written(false), want);
    }

    private static void textLength() {
        Run.sentence("THE TEXT has at most 240 characters");
        fillUp(false, 240);
        dueTable("a\n" + "x".repeat(238), "a\n" + "x".repeat(238) + "\n");
        dueTable("a\n" + "x".repeat(237) + "\n", "a\n" + "x".repeat(237) + "\n");
    }

    private static void questionLength() {
        Run.sentence("THE QUESTION at most 96 characters");
        fillUp(true, 96);
        Run run = Run.of("a\n1\n2\n");
        Run.due("ask of 96 characters", run.ask("rows where" + " ".repeat(83) + "a=2"), "1");
        Run.due("ask of 96 characters", run.ask("rows" + " ".repeat(92)), "2");
    }

    private static void fillUp(boolean question, int limit) {
        for (int n = 1; n <= 8; n++) {
            Run run = new Run();
            run.put(question, "a".repeat(limit - n));
            long w = Run.word("bbbbbbbb");
            for (int more = n + 1; more <= 8; more++) {
                Run.due(more + " where " + n + " have room", run.x.put(question, w, more), false);
            }
            Run.due(n + " where " + n + " have room", run.x.put(question, w, n), true);
            Run.due("one behind " + limit, run.x.put(question, w, 1), false);
            Run.due("cut to " + (limit + 1), run.x.cut(question, limit + 1), false);
            Run.due("cut to " + limit, run.x.cut(question, limit), true);
        }
    }

    private static void characters(boolean question) {
        Run.sentence(question ? "characters 32 .. 126" : "characters 10, 13 or 32 .. 126");
        for (int c = 0; c < 256; c++) {
            boolean fits = c >= 32 && c <= 126 || !question && (c == 10 || c == 13);
            Run run = new Run();
            for (int place = 0; place < 8; place++) {
                long w = Run.word("aaaaaaaa") & ~(255L << 8 * place) | (long) c << 8 * place;
                String what = "put of " + c + " at byte " + place;
                Run.due(what, run.x.put(question, w, 8), fits);
                int before = place == 0 ? 1 : place;
                Run.due(what + " of " + before, run.x.put(question, w, before), place > 0 || fits);
            }
        }
    }

    private static void letters() {
        Run.sentence("LETTERS are a .. z");
        for (char c = 32; c <= 126; c++) {
            boolean letter = c >= 'a' && c <= 'z';
            if (c != '"' && c != ',') {
                dueLoad("" + c, letter ? "0" : UNNAMED);
                dueLoad("x" + c, letter ? "0" : UNNAMED);
            }
            dueLoad("\"" + (c == '"' ? "\"\"" : "" + c) + "\"", letter ? "0" : UNNAMED);
        }
    }

    private static void digits() {
        Run.sentence("DIGITS 0 .. 9");
        for (char c = 32; c <= 126; c++) {
            boolean digit = c >= '0' && c <= '9';
            if (c != '"' && c != ',') {
                Run.due("type of " + c, Run.of("a\n" + c).x.type(0), digit ? 0 : 3);
                Run.due("type of 1" + c, Run.of("a\n1" + c).x.type(0), digit ? 0 : 3);
                Run.due("type of a date with " + c, Run.of("a\n200" + c + "-01-01").x.type(0), digit ? 2 : 3);
            }
            Run run = Run.of("n\n1");
            // Spaces behind a number are none of its token.
            Run.due("ask with 1" + c, run.ask("rows where n<1" + c), digit || c == ' ' ? digit ? "1" : "0" : ILLEGAL);
        }
    }

    private static void recordEnds() {
        Run.sentence("a row of RECORDS, each ended by 10, or by 13 and 10");
        dueTable("a,b\n1,2\n3,4\n", "a,b\n1,2\n3,4\n");
        dueTable("a,b\r\n1,2\r\n3,4\r\n", "a,b\n1,2\n3,4\n");
        dueTable("a,b\r\n1,2\n3,4\r\n", "a,b\n1,2\n3,4\n");
        dueTable("\"a\",\"b\"\r\n\"x\",\"y\"\n", "a,b\nx,y\n");
        dueLoad("a\r1\n", ILLEGAL);
        dueLoad("a\n\r1\n", ILLEGAL);
        dueLoad("a\r\r\n1\n", ILLEGAL);
        dueTable("a\n\n\r\n\n", "a\n\n\n\n");
    }

    private static void lastRecord() {
        Run.sentence("(but the last one may end with the text, if it is not empty then)");
        dueLoad("a", "0");
        dueLoad("a\n", "0");
        dueLoad("a\r\n", "0");
        dueLoad("a\n1", "1");
        dueLoad("a\n1\n", "1");
        dueLoad("a\n\n", "1");
        dueLoad("a\n\"\"", "1");
        dueLoad("a\n ", "1");
        dueLoad("a,b\n,", "1");
        dueLoad("a\n1\r", ILLEGAL);
        dueLoad("", UNNAMED);
    }

    private static void fieldsOfARecord() {
        Run.sentence("a record is one or more FIELDS with commas between");
        dueTable("a\nx", "a\nx\n");
        dueTable("a,b\nx,y", "a,b\nx,y\n");
        dueTable("a,b,c\n,,", "a,b,c\n,,\n");
        dueTable("a,b,c\n,x,", "a,b,c\n,x,\n");
        dueTable("a,b,c,d,e,f\n1,2,3,4,5,6", "a,b,c,d,e,f\n1,2,3,4,5,6\n");
        dueLoad("a;b\n1;2", UNNAMED);
    }

    private static void quotedFields() {
        Run.sentence("QUOTED: a quotation mark (\"), any characters, but each quotation mark twice, a quotation mark");
        for (char c = 10; c <= 126; c++) {
            if (c == 10 || c == 13 || c >= 32 && c != '"') {
                Run run = Run.of("a\n\"x" + c + "\"");
                boolean marks = c == ',' || c == 10 || c == 13;
                String cell = marks ? "\"x" + c + "\"" : "x" + c;
                Run.due("a quoted field with " + (int) c, run.written(false), "a\n" + cell + "\n");
            }
        }
        dueTable("a,b\n\"\",\"\"\"\"", "a,b\n\"\",\"\"\"\"\n");
        dueTable("a\n\"\"\",\"\"\"", "a\n\"\"\",\"\"\"\n");
        dueLoad("a\n\"", ILLEGAL);
        dueLoad("a\n\"\"\"", ILLEGAL);
        dueLoad("a\n\"x\"\"", ILLEGAL);
        dueLoad("a\n\"x\"x\"", ILLEGAL);
        dueLoad("a\n\"x\" \"y\"", ILLEGAL);
    }

    private static void plainFields() {
        Run.sentence("PLAIN: any characters (none, too) but commas, quotation marks, 10 and 13");
        for (char c = 32; c <= 126; c++) {
            if (c != '"' && c != ',') {
                dueTable("a\nx" + c + "\ny", "a\nx" + c + "\ny\n");
            }
        }
        dueLoad("a\nx,", UNEVEN);
        dueLoad("a\nx\"", ILLEGAL);
        dueLoad("a\nx\"\"", ILLEGAL);
        dueLoad("a\nx\ny", "2");
        dueLoad("a\nx\ry", ILLEGAL);
        Run.due("a plain field without characters", Run.of("a,b\n,1").missing(0, 0), "1");
    }

    private static void asManyFields() {
        Run.sentence("All records have as many fields");
        for (int width = 1; width <= 6; width++) {
            String header = "a,b,c,d,e,f".substring(0, 2 * width - 1);
            String commas = ",".repeat(width - 1);
            dueLoad(header + "\n" + commas + "\n" + commas + "\n", "2");
            dueLoad(header + "\n," + commas + "\n" + commas + "\n", UNEVEN);
            dueLoad(header + "\n" + commas + "\n," + commas, UNEVEN);
            if (width > 1) {
                dueLoad(header + "\n" + commas.substring(1) + "\n" + commas, UNEVEN);
                dueLoad(header + "\n" + commas + "\n" + commas.substring(1) + "\n", UNEVEN);
                dueLoad(header + "\n\"" + commas + "\"\n", UNEVEN);
            }
        }
    }

    private static void atMostSixFields() {
        Run.sentence("as many fields, at most 6");
        dueLoad("a,b,c,d,e,f", "0");
        dueLoad("a,b,c,d,e,f\n,,,,,\n", "1");
        dueLoad("a,b,c,d,e,f,g", UNEVEN);
        dueLoad("a,b,c,d,e,f,g\n,,,,,,\n", UNEVEN);
        dueLoad(",".repeat(240), UNEVEN);
        Run.due("columns", Run.of("a,b,c,d,e,f").x.columns(), 6);
    }

    private static void plainAndQuotedNames() {
        Run.sentence("its fields (plain or quoted) are the columns' NAMES");
        dueTable("a,\"b\"\n1,2", "a,b\n1,2\n");
        Run run = Run.of("\"a\",b\n1,2");
        Run.due("ask of a name that was quoted", run.ask("rows where a=1 and b=2"), "1");
        dueLoad("\"a\"\"\"", UNNAMED);
        dueLoad("\"a,b\"", UNNAMED);
        dueLoad("\"a\n\"", UNNAMED);
    }

    private static void lengthsOfNames() {
        Run.sentence("each one to six letters");
        for (int length = 0; length <= 8; length++) {
            String name = "sixletts".substring(0, length);
            String want = length >= 1 && length <= 6 ? "0" : UNNAMED;
            dueLoad(name + "\n", want);
            dueLoad("a," + name, want);
            dueLoad(name + ",a", want);
            dueLoad("\"" + name + "\"", want);
        }
        dueLoad("a" + "b".repeat(239), UNNAMED);
    }

    private static void namesTwice() {
        Run.sentence("no one twice");
        dueLoad("a,a", UNNAMED);
        dueLoad("a,b,c,d,e,a", UNNAMED);
        dueLoad("a,b,c,d,e,e", UNNAMED);
        dueLoad("sixlet,\"sixlet\"", UNNAMED);
        dueLoad("sixlet,sixle,sixles", "0");
        dueLoad("ab,a,b,ba", "0");
    }

    private static void wordsThatAreNoNames() {
        Run.sentence("none of the words by, where, and, or, not, is, null, order, desc");
        for (String word : new String[] {"by", "where", "and", "or", "not", "is", "null", "order", "desc"}) {
            dueLoad(word, UNNAMED);
            dueLoad("\"" + word + "\"", UNNAMED);
            dueLoad("a,b,c,d,e," + word, UNNAMED);
            dueLoad(word + "s", "0");
            dueLoad("x" + word, "0");
            dueLoad(word.substring(1), "0");
            dueLoad(word.substring(0, word.length() - 1), "0");
        }
        dueLoad("rows,count,sum,least,most", "0");
    }

    private static void sixteenRows() {
        Run.sentence("The others are ROWS, at most 16");
        for (String row : new String[] {"", "1", "\"\"", "x"}) {
            for (int rows = 14; rows <= 19; rows++) {
                String want = rows <= 16 ? Integer.toString(rows) : TOO_MANY;
                dueLoad("a\n" + (row + "\n").repeat(rows), want);
                dueLoad("a\r\n" + (row + "\r\n").repeat(rows), want);
                dueLoad("a\n" + (row + "\n").repeat(rows - 1) + "z", want);
            }
        }
        dueLoad("a,b,c,d,e,f\n" + ",,,,,\n".repeat(16), "16");
        dueLoad("a,b,c,d,e,f\n" + ",,,,,\n".repeat(17), TOO_MANY);
        dueLoad("a" + "\n".repeat(239), TOO_MANY);
    }

    private static void rowNumbers() {
        Run.sentence("numbered from 0");
        Run run = Run.of("a\n10\n11\n12\n13\n14\n15\n16\n17\n18\n19\n20\n21\n22\n23\n24\n25\n");
        for (int row = 0; row < 16; row++) {
            Run.due("value of row " + row, run.x.value(row, 0), 10L + row);
        }
        run.ask("rows");
        Run.due("rows", run.linesTold(), "0 1 2 3 4 5 6 7 8 9 10 11 12 13 14 15");
        run.ask("rows where a=10 or a=25");
        Run.due("rows", run.linesTold(), "0 15");
    }
}
