import java.util.function.LongSupplier;

/** An object under test, called with texts, and the count of answers that were not as due. */
final class Run {
    private static int wrong = 0;
    private static String sentence = "";
    final AskedTable x = new AskedTable();

    /** The sentence of the document that the answers from here on are held against. */
    static void sentence(String words) {
        sentence = words;
    }

    static void due(String what, Object got, Object want) {
        if (!got.equals(want)) {
            wrong++;
            System.out.println((sentence.isEmpty() ? "" : "\"" + sentence + "\": ")
                    + what + " answered " + got + ", due is " + want);
        }
    }

    static void finish() {
        System.out.println(wrong == 0 ? "all answers are as due" : wrong + " answers are not as due");
        if (wrong != 0) {
            System.exit(1);
        }
    }

    /** The answer of a call, or the name of what it throws. */
    static String told(LongSupplier call) {
        try {
            return Long.toString(call.getAsLong());
        } catch (RuntimeException thrown) {
            return thrown.getClass().getSimpleName();
        }
    }

    /** The text or question becomes this one. */
    void put(boolean question, String chars) {
        due("cut", x.cut(question, 0), true);
        add(question, chars);
    }

    /** This comes behind the text or question. */
    void add(boolean question, String chars) {
        for (int i = 0; i < chars.length(); i += 8) {
            String part = chars.substring(i, Math.min(i + 8, chars.length()));
            due("put of " + part, x.put(question, word(part), part.length()), true);
        }
    }

    static long word(String part) {
        long w = 0;
        for (int i = 0; i < part.length(); i++) {
            w |= (long) part.charAt(i) << 8 * i;
        }
        return w;
    }

    String load(String text) {
        put(false, text);
        return told(x::load);
    }

    String ask(String question) {
        put(true, question);
        return told(x::ask);
    }

    static Run of(String text) {
        Run run = new Run();
        run.put(false, text);
        run.x.load();
        return run;
    }

    String type(int column) {
        return told(() -> x.type(column));
    }

    String missing(int row, int column) {
        return told(() -> x.isMissing(row, column) ? 1 : 0);
    }

    String value(int row, int column) {
        return told(() -> x.value(row, column));
    }

    String line(int k) {
        return told(() -> x.line(k));
    }

    String aggregate(int k) {
        return told(() -> x.aggregate(k));
    }

    /** What write() puts into OUT, or the name of what it throws. */
    String written(boolean answer) {
        String length = told(() -> x.write(answer));
        return length.matches("\\d+") ? out(Integer.parseInt(length)) : length;
    }

    String out(int length) {
        StringBuilder chars = new StringBuilder();
        for (int i = 0; i < length; i++) {
            chars.append((char) x.out(i));
        }
        due("out behind the end", told(() -> x.out(length)), "IndexOutOfBoundsException");
        return chars.toString();
    }

    /** All that line() answers for the answer, with spaces between. */
    String linesTold() {
        StringBuilder told = new StringBuilder();
        for (int k = 0; k < x.lines(); k++) {
            told.append(k == 0 ? "" : " ").append(x.line(k));
        }
        return told.toString();
    }

    /** All that aggregate() answers for the answer, with spaces between. */
    String aggregatesTold() {
        StringBuilder told = new StringBuilder();
        for (int k = 0; k < x.lines(); k++) {
            told.append(k == 0 ? "" : " ").append(aggregate(k));
        }
        return told.toString();
    }
}
