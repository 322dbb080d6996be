import java.lang.reflect.Constructor;
import java.lang.reflect.Field;
import java.lang.reflect.Method;
import java.lang.reflect.Modifier;
import java.util.Arrays;
import java.util.TreeSet;
import java.util.function.Function;

/** Promise 1, and the public face. */
public final class NewObjectTest {
    public static void main(String[] args) {
        nothingIsThere();
        eachCallAsTheFirst();
        objectsShareNothing();
        theFaceIsTheDocuments();
        Run.finish();
    }

    private static void nothingIsThere() {
        Run run = new Run();
        Run.due("columns", run.x.columns(), 0);
        Run.due("type", Run.told(() -> run.x.type(0)), "IndexOutOfBoundsException");
        Run.due("isMissing", Run.told(() -> run.x.isMissing(0, 0) ? 1 : 0), "IndexOutOfBoundsException");
        Run.due("value", Run.told(() -> run.x.value(0, 0)), "IndexOutOfBoundsException");
        Run.due("ask", Run.told(run.x::ask), "IllegalStateException");
        Run.due("fault", run.x.fault(), AskedTable.NONE);
        Run.due("lines", run.x.lines(), AskedTable.NONE);
        Run.due("line", Run.told(() -> run.x.line(0)), "IllegalStateException");
        Run.due("aggregate", Run.told(() -> run.x.aggregate(0)), "IllegalStateException");
        Run.due("write of the table", run.written(false), "IllegalStateException");
        Run.due("write of the answer", run.written(true), "IllegalStateException");
        Run.due("out", run.out(0), "");
        Run.due("cut of the empty text", run.x.cut(false, 1), false);
        Run.due("cut of the empty question", run.x.cut(true, 1), false);
        Run.due("load of the empty text", Run.told(run.x::load), "NoSuchElementException");
    }

    private static void dueFirst(String what, Function<AskedTable, Object> call, String want) {
        String got;
        try {
            got = call.apply(new AskedTable()).toString();
        } catch (RuntimeException thrown) {
            got = thrown.getClass().getSimpleName();
        }
        Run.due(what + " as the first call", got, want);
    }

    private static void eachCallAsTheFirst() {
        String none = "IllegalStateException";
        String nowhere = "IndexOutOfBoundsException";
        Run.sentence("An empty text, an empty question");
        for (boolean question : new boolean[] {false, true}) {
            dueFirst("put", x -> x.put(question, 'a', 1), "true");
            dueFirst("put of eight", x -> x.put(question, Run.word("abcdefgh"), 8), "true");
            dueFirst("put of none", x -> x.put(question, 'a', 0), "false");
            dueFirst("put of nine", x -> x.put(question, Run.word("abcdefgh"), 9), "false");
            dueFirst("put of 127", x -> x.put(question, 127, 1), "false");
            dueFirst("cut to 0", x -> x.cut(question, 0), "true");
            dueFirst("cut to 1", x -> x.cut(question, 1), "false");
            dueFirst("cut to -1", x -> x.cut(question, -1), "false");
        }
        dueFirst("load", x -> x.load(), "NoSuchElementException");
        Run.sentence("no table, no answer; OUT is empty");
        dueFirst("columns", x -> x.columns(), "0");
        dueFirst("ask", x -> x.ask(), none);
        dueFirst("fault", x -> x.fault(), "-1");
        dueFirst("lines", x -> x.lines(), "-1");
        dueFirst("write of the table", x -> x.write(false), none);
        dueFirst("write of the answer", x -> x.write(true), none);
        for (int i : new int[] {0, -1, 1, 5, 15, Integer.MIN_VALUE, Integer.MAX_VALUE}) {
            dueFirst("type " + i, x -> x.type(i), nowhere);
            dueFirst("isMissing " + i + ", 0", x -> x.isMissing(i, 0), nowhere);
            dueFirst("isMissing 0, " + i, x -> x.isMissing(0, i), nowhere);
            dueFirst("value " + i + ", 0", x -> x.value(i, 0), nowhere);
            dueFirst("value 0, " + i, x -> x.value(0, i), nowhere);
            dueFirst("line " + i, x -> x.line(i), none);
            dueFirst("aggregate " + i, x -> x.aggregate(i), none);
            dueFirst("out " + i, x -> x.out(i), nowhere);
        }
    }

    private static void objectsShareNothing() {
        Run.sentence("");
        Run full = Run.of("a\n1\n");
        full.ask("rows");
        full.written(true);
        nothingIsThere();
        Run.due("the full one's lines", full.x.lines(), 1);
    }

    private static void theFaceIsTheDocuments() {
        TreeSet<String> seen = new TreeSet<>();
        for (Method method : AskedTable.class.getDeclaredMethods()) {
            if (!Modifier.isPrivate(method.getModifiers())) {
                seen.add(method.getReturnType() + " " + method.getName() + Arrays.toString(method.getParameterTypes()));
            }
        }
        for (Field field : AskedTable.class.getDeclaredFields()) {
            if (!Modifier.isPrivate(field.getModifiers())) {
                seen.add(Modifier.toString(field.getModifiers()) + " " + field.getName());
            }
        }
        for (Constructor<?> constructor : AskedTable.class.getDeclaredConstructors()) {
            seen.add(constructor.toString());
        }
        Run.due("the face", seen, new TreeSet<>(Arrays.asList(
                "public static final NONE", "public AskedTable()", "boolean put[boolean, long, int]",
                "boolean cut[boolean, int]", "int load[]", "int columns[]", "int type[int]",
                "boolean isMissing[int, int]", "long value[int, int]", "int ask[]", "int fault[]", "int lines[]",
                "int line[int]", "long aggregate[int]", "int write[boolean]", "int out[int]")));
        Run.due("NONE", AskedTable.NONE, -1);
    }
}
