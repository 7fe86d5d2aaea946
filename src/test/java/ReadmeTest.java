import java.io.IOException;
import java.lang.reflect.Method;
import java.lang.reflect.Modifier;
import java.nio.file.Files;
import java.nio.file.Path;
import java.util.ArrayList;
import java.util.List;
import java.util.Set;
import java.util.TreeSet;
import java.util.regex.Matcher;
import java.util.regex.Pattern;

/** README.md: each line of an example answers what stands behind it, and the table of exceptions is that of the face. */
public final class ReadmeTest {
    private static final Pattern CALL = Pattern.compile("atlas\\.(\\w+)\\(([^)]*)\\)[^/]*(//.*)?");
    private static final Pattern ANSWER = Pattern.compile("// (answers|throws) (-?\\w+)(:.*)?");
    private static final Pattern ROW = Pattern.compile("\\| `(\\w+)` \\|([^|]*)\\|([^|]*)\\|([^|]*)\\|");
    private static final String[] COLUMNS = {
        "IndexOutOfBoundsException", "IllegalArgumentException", "IllegalStateException",
    };

    public static void main(String[] args) throws IOException {
        List<String> page = Files.readAllLines(Path.of("README.md"));
        examples(page);
        exceptions(page);
        Due.close("ReadmeTest");
    }

    private static Set<String> face() {
        Set<String> names = new TreeSet<>();
        for (Method method : PaintballAtlas.class.getDeclaredMethods()) {
            if (Modifier.isPublic(method.getModifiers())) {
                names.add(method.getName());
            }
        }
        return names;
    }

    private static void examples(List<String> page) {
        Set<String> withoutExample = face();
        PaintballAtlas atlas = new PaintballAtlas();
        boolean inExample = false;
        for (String line : page) {
            if (line.startsWith("```")) {
                inExample = line.equals("```java");
            }
            Matcher call = CALL.matcher(line);
            if (inExample && line.contains("new PaintballAtlas()")) {
                atlas = new PaintballAtlas();
            } else if (inExample && call.find()) {
                withoutExample.remove(call.group(1));
                example(atlas, call);
            }
        }
        Due.same("calls without an example", withoutExample.toString(), "[]");
    }

    private static void example(PaintballAtlas atlas, Matcher call) {
        Asked asked = Asked.of(call.group(1) + " " + call.group(2).replace(",", " "));
        String got = asked.answer(atlas);
        Matcher answer = ANSWER.matcher(call.group(3) == null ? "" : call.group(3));
        if (!answer.matches()) {
            Due.same(asked.written() + ", without an answer,", call.group(1) + ": " + got, "begin: 0");
            return;
        }
        String due = answer.group(2);
        Due.is(asked.written() + " is said to throw", answer.group(1).equals("throws"), Asked.isRefusal(got));
        Due.same(asked.written(), got, due.equals("true") ? "1" : due.equals("false") ? "0" : due);
    }

    private static void exceptions(List<String> page) {
        Set<String> withoutRow = face();
        for (String line : page) {
            Matcher row = ROW.matcher(line);
            if (row.matches()) {
                withoutRow.remove(row.group(1));
                Due.same(row.group(1) + " throws", said(row), declared(row.group(1)));
            }
        }
        Due.same("calls that the table of exceptions leaves out", withoutRow.toString(), "[]");
    }

    private static String said(Matcher row) {
        List<String> thrown = new ArrayList<>();
        for (int column = 0; column < COLUMNS.length; column++) {
            if (!row.group(2 + column).isBlank()) {
                thrown.add(COLUMNS[column]);
            }
        }
        return thrown.toString();
    }

    // The document declares them in the order in which they go, and so do the columns.
    private static String declared(String name) {
        List<String> thrown = new ArrayList<>();
        for (Method method : PaintballAtlas.class.getDeclaredMethods()) {
            if (method.getName().equals(name)) {
                for (Class<?> type : method.getExceptionTypes()) {
                    thrown.add(type.getSimpleName());
                }
            }
        }
        return thrown.toString();
    }
}
