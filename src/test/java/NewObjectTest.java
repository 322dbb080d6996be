import java.lang.reflect.Constructor;
import java.lang.reflect.Field;
import java.lang.reflect.Method;
import java.lang.reflect.Modifier;
import java.util.Arrays;
import java.util.TreeSet;

/** Promise 1, and the public face. */
public final class NewObjectTest {
    public static void main(String[] args) {
        nothingIsThere();
        objectsShareNothing();
        theFaceIsTheDocuments();
        Run.finish();
    }

    private static void nothingIsThere() {
        Run run = new Run();
        Run.due("columns", run.x.columns(), 0);
        Run.due("type", Run.told(() -> run.x.type(0)), "IndexOutOfBoundsException");
        Run.due("isMissing", Run.told(() -> run.x.isMissing(0, 0) ? 1 : 0), "IndexOutOfBoundsException");
        Run.due("value", Run.told(() -> run.x.value(0, 0)), "IndexOutOfBoundsException");
        Run.due("ask", Run.told(run.x::ask), "IllegalStateException");
        Run.due("fault", run.x.fault(), AskedTable.NONE);
        Run.due("lines", run.x.lines(), AskedTable.NONE);
        Run.due("line", Run.told(() -> run.x.line(0)), "IllegalStateException");
        Run.due("aggregate", Run.told(() -> run.x.aggregate(0)), "IllegalStateException");
        Run.due("write of the table", run.written(false), "IllegalStateException");
        Run.due("write of the answer", run.written(true), "IllegalStateException");
        Run.due("out", run.out(0), "");
        Run.due("cut of the empty text", run.x.cut(false, 1), false);
        Run.due("cut of the empty question", run.x.cut(true, 1), false);
        Run.due("load of the empty text", Run.told(run.x::load), "NoSuchElementException");
    }

    private static void objectsShareNothing() {
        Run full = Run.of("a\n1\n");
        full.ask("rows");
        full.written(true);
        nothingIsThere();
        Run.due("the full one's lines", full.x.lines(), 1);
    }

    private static void theFaceIsTheDocuments() {
        TreeSet<String> seen = new TreeSet<>();
        for (Method method : AskedTable.class.getDeclaredMethods()) {
            if (!Modifier.isPrivate(method.getModifiers())) {
                seen.add(method.getReturnType() + " " + method.getName() + Arrays.toString(method.getParameterTypes()));
            }
        }
        for (Field field : AskedTable.class.getDeclaredFields()) {
            if (!Modifier.isPrivate(field.getModifiers())) {
                seen.add(Modifier.toString(field.getModifiers()) + " " + field.getName());
            }
        }
        for (Constructor<?> constructor : AskedTable.class.getDeclaredConstructors()) {
            seen.add(constructor.toString());
        }
        Run.due("the face", seen, new TreeSet<>(Arrays.asList(
                "public static final NONE", "public AskedTable()", "boolean put[boolean, long, int]",
                "boolean cut[boolean, int]", "int load[]", "int columns[]", "int type[int]",
                "boolean isMissing[int, int]", "long value[int, int]", "int ask[]", "int fault[]", "int lines[]",
                "int line[int]", "long aggregate[int]", "int write[boolean]", "int out[int]")));
        Run.due("NONE", AskedTable.NONE, -1);
    }
}
