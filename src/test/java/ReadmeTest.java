import java.lang.reflect.Method;
import java.lang.reflect.Modifier;
import java.nio.charset.StandardCharsets;
import java.nio.file.Files;
import java.nio.file.Path;
import java.util.regex.Matcher;
import java.util.regex.Pattern;

/** What README.md tells of the class holds: each call in it answers what stands behind it, and its table is whole. */
public final class ReadmeTest extends Calls {
    private static final Pattern CALL = Pattern.compile("x\\.(\\w+)\\((.*)\\); +// (true|false|-?\\d+).*");
    private static final Pattern TAPE = Pattern.compile("tape\\(x, \"(.*)\"\\);");

    public static void main(String[] args) throws Exception {
        String text = Files.readString(Path.of("README.md"), StandardCharsets.UTF_8);
        about("README.md");
        due("its calls are known", calls(text) > 20, true);
        table(text);
        finish("readme");
    }

    /** All calls that are told with an answer, on one object: how many. */
    private static int calls(String text) throws Exception {
        UnaskedLetters x = new UnaskedLetters();
        int calls = 0;
        for (String line : text.split("\n")) {
            Matcher tape = TAPE.matcher(line);
            Matcher call = CALL.matcher(line);
            if (tape.matches()) {
                tape(x, tape.group(1));
            } else if (call.matches()) {
                calls++;
                String got = String.valueOf(answer(x, call.group(1), call.group(2)));
                due("'" + line + "' answers " + got, got.equals(call.group(3)), true);
            }
        }
        return calls;
    }

    private static Object answer(UnaskedLetters x, String name, String told) throws Exception {
        Method method = methodOf(name);
        String[] values = told.isEmpty() ? new String[0] : told.split(", ");
        Class<?>[] types = method.getParameterTypes();
        Object[] row = new Object[types.length];
        for (int i = 0; i < types.length; i++) {
            row[i] = types[i] == boolean.class ? (Object) Boolean.valueOf(values[i]) : (Object) Integer.decode(values[i]);
        }
        return method.invoke(x, row);
    }

    private static Method methodOf(String name) throws NoSuchMethodException {
        for (Method method : UnaskedLetters.class.getDeclaredMethods()) {
            if (method.getName().equals(name)) {
                return method;
            }
        }
        throw new NoSuchMethodException(name);
    }

    private static void table(String text) {
        StringBuilder rows = new StringBuilder();
        for (String line : text.split("\n")) {
            rows.append(line.startsWith("|") ? line : "");
        }
        for (Method method : UnaskedLetters.class.getDeclaredMethods()) {
            if (Modifier.isPublic(method.getModifiers())) {
                due(method.getName() + " is in the table", rows.indexOf("`" + method.getName() + "`") >= 0, true);
            }
        }
    }
}
