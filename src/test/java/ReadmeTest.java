import java.io.IOException;
import java.lang.reflect.Method;
import java.lang.reflect.Modifier;
import java.nio.file.Files;
import java.nio.file.Path;
import java.util.regex.Matcher;
import java.util.regex.Pattern;

/** README.md tells the truth: its calls answer what it says, and no call is left out; run from the project's folder. */
public final class ReadmeTest {
    private static final Pattern CALL =
        Pattern.compile("^levels\\.(\\w+)\\(([-0-9, ]*)\\); *// ([-.\\w]*[\\w])", Pattern.MULTILINE);

    private static int wrong = 0;

    private static void fault(String text) {
        wrong++;
        System.out.println(text);
    }

    private static Object answer(SlipLevels levels, String name, String list) throws ReflectiveOperationException {
        String[] given = list.isEmpty() ? new String[0] : list.split(", ");
        Class<?>[] types = new Class<?>[given.length];
        Object[] values = new Object[given.length];
        for (int at = 0; at < given.length; at++) {
            types[at] = int.class;
            values[at] = Integer.parseInt(given[at]);
        }
        return SlipLevels.class.getMethod(name, types).invoke(levels, values);
    }

    private static void callsAnswerSo(String text) throws ReflectiveOperationException {
        SlipLevels levels = new SlipLevels();
        long lines = text.lines().filter(line -> line.startsWith("levels.")).count();
        Matcher call = CALL.matcher(text);
        long found = 0;
        while (call.find()) {
            found++;
            String got = answer(levels, call.group(1), call.group(2)).toString();
            if (!got.equals(call.group(3))) {
                fault(call.group() + ": it answers " + got);
            }
        }
        if (found == 0 || found != lines) {
            fault(found + " of " + lines + " calls could be read");
        }
    }

    private static void tableHasEveryCall(String text) {
        for (Method method : SlipLevels.class.getDeclaredMethods()) {
            boolean told = text.contains("\n| `" + method.getName() + "(");
            if (Modifier.isPublic(method.getModifiers()) && !told) {
                fault("README.md leaves out " + method.getName());
            }
        }
    }

    public static void main(String[] args) throws IOException, ReflectiveOperationException {
        String text = Files.readString(Path.of("README.md"));
        callsAnswerSo(text);
        tableHasEveryCall(text);
        System.out.println(wrong == 0 ? "README.md tells the truth" : wrong + " faults of README.md");
        if (wrong != 0) {
            System.exit(1);
        }
    }
}
