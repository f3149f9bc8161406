import java.io.IOException;
import java.lang.reflect.Method;
import java.nio.file.Files;
import java.nio.file.Path;
import java.util.regex.Matcher;
import java.util.regex.Pattern;

/** Makes the calls that README.md shows, one behind the other on one desk, and holds them against what it says. */
public final class ReadmeTest {
    // A call on the desk, read as a REAL or a FLOAT or as it is, and the answer behind it.
    private static final Pattern ROW = Pattern.compile("(Double\\.longBitsToDouble\\(|Float\\.intBitsToFloat\\(|)"
        + "desk\\.(\\w+)\\((.*)\\); +// ([-.0-9]+)(:.*)?");
    private static final Pattern FLOAT = Pattern.compile("Float\\.floatToIntBits\\((.*)f\\)");
    private static final Due due = new Due("ReadmeTest");

    public static void main(String[] args) throws ReflectiveOperationException, IOException {
        Path source = Path.of(System.getProperty("tidedesk.source", "src/main/java/TideDesk.java")).toAbsolutePath();
        String readme = Files.readString(source.resolve("../../../../README.md").normalize());
        TideDesk desk = new TideDesk();
        int rows = 0;
        for (String line : readme.split("\n")) {
            Matcher row = ROW.matcher(line);
            boolean isRow = row.matches();
            due.is("a row that can be read: " + line, isRow || !line.contains("desk.") ? 1 : 0, 1);
            if (!isRow) continue;
            due.is(line, answer(desk, row), want(row));
            rows++;
        }
        due.is("README.md shows calls", rows >= 20 ? 1 : 0, 1);
        due.is("README.md names the one command", readme.contains("```sh\n.ci/run\n```") ? 1 : 0, 1);
        due.end();
    }

    private static long answer(TideDesk desk, Matcher row) throws ReflectiveOperationException {
        // What reads a REAL or a FLOAT closes behind the call.
        String all = row.group(1).isEmpty() ? row.group(3) : row.group(3).substring(0, row.group(3).length() - 1);
        String[] told = all.isEmpty() ? new String[0] : all.split(", ");
        Object[] numbers = new Object[told.length];
        for (int i = 0; i < told.length; i++) numbers[i] = number(told[i]);
        for (Method m : TideDesk.class.getDeclaredMethods()) {
            if (m.getName().equals(row.group(2))) return ((Number) m.invoke(desk, numbers)).longValue();
        }
        throw new NoSuchMethodException(row.group(2));
    }

    private static Object number(String told) {
        Matcher f = FLOAT.matcher(told);
        if (f.matches()) return Due.bits(Float.parseFloat(f.group(1)));
        if (told.equals("true") || told.equals("false")) return Boolean.valueOf(told);
        return Integer.valueOf(told);
    }

    private static long want(Matcher row) {
        if (row.group(1).startsWith("Double")) return Due.real(Double.parseDouble(row.group(4)));
        if (row.group(1).startsWith("Float")) return Due.bits(Float.parseFloat(row.group(4)));
        return Long.parseLong(row.group(4));
    }
}
