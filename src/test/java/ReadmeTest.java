import java.io.IOException;
import java.lang.reflect.InvocationTargetException;
import java.lang.reflect.Method;
import java.lang.reflect.Modifier;
import java.nio.file.Files;
import java.nio.file.Path;
import java.util.TreeSet;
import java.util.regex.Matcher;
import java.util.regex.Pattern;

/** The example of README.md, row by row: each call answers the number that stands behind it. */
public final class ReadmeTest {
    private static final String START = "LicenceRows2 x = new LicenceRows2();";
    private static final Pattern ROW = Pattern.compile("x\\.(\\w+)\\(([^)]*)\\);\\s+// (-?\\d+): .+");

    private static int rows = 0;
    private static int wrong = 0;

    private static void tell(String what) {
        wrong++;
        System.out.println(what);
    }

    private static TreeSet<String> faceNames() {
        TreeSet<String> names = new TreeSet<>();
        for (Method m : LicenceRows2.class.getDeclaredMethods()) {
            if (Modifier.isPublic(m.getModifiers())) {
                names.add(m.getName());
            }
        }
        return names;
    }

    private static Method named(String name) {
        for (Method m : LicenceRows2.class.getDeclaredMethods()) {
            if (Modifier.isPublic(m.getModifiers()) && m.getName().equals(name)) {
                return m;
            }
        }
        return null;
    }

    private static Object[] values(String list) {
        String[] texts = list.isEmpty() ? new String[0] : list.split(", ");
        Object[] values = new Object[texts.length];
        for (int i = 0; i < texts.length; i++) {
            boolean truth = texts[i].equals("true") || texts[i].equals("false");
            values[i] = truth ? (Object) Boolean.valueOf(texts[i]) : (Object) Integer.valueOf(texts[i]);
        }
        return values;
    }

    private static void look(LicenceRows2 x, String line, TreeSet<String> notShown)
            throws IllegalAccessException, InvocationTargetException {
        Matcher row = ROW.matcher(line);
        Method m = row.matches() ? named(row.group(1)) : null;
        if (m == null) {
            tell("not a row of a call and its answer: " + line);
            return;
        }
        rows++;
        notShown.remove(m.getName());
        Object got = m.invoke(x, values(row.group(2)));
        if (!got.equals(Integer.valueOf(row.group(3)))) {
            tell("answered " + got + ": " + line);
        }
    }

    public static void main(String[] args)
            throws IOException, IllegalAccessException, InvocationTargetException {
        LicenceRows2 x = null;
        TreeSet<String> notShown = faceNames();
        for (String line : Files.readAllLines(Path.of("README.md"))) {
            if (line.equals(START)) {
                x = new LicenceRows2();
            } else if (line.startsWith("```")) {
                x = null;
            } else if (x != null) {
                look(x, line, notShown);
            }
        }
        if (!notShown.isEmpty()) {
            tell("calls that README.md does not show: " + notShown);
        }
        System.out.println(rows + " rows of README.md, " + wrong + " not as due");
        if (wrong != 0) {
            System.exit(1);
        }
    }
}
