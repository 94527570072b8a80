import java.lang.reflect.Constructor;
import java.lang.reflect.Field;
import java.lang.reflect.Member;
import java.lang.reflect.Method;
import java.lang.reflect.Modifier;
import java.nio.charset.StandardCharsets;
import java.nio.file.Files;
import java.nio.file.Path;
import java.util.Arrays;
import java.util.Set;
import java.util.TreeSet;
import java.util.regex.Matcher;
import java.util.regex.Pattern;

/** The face of the document, and those rules of LANGUAGE.md that a look at the source can tell. */
public final class LanguageTest {
    private static final String[] FACE = {"int house()", "boolean up(int, boolean)", "boolean road(int, int)", "int name(int, boolean)",
        "int feed(int, int, int, int, int)", "boolean end(int)", "int fault(int)", "int rules(int, boolean, int)",
        "int force(int, boolean, int, int)", "int list()", "boolean off(int, int)", "int bars(int, int, int, int)", "int harm(int)",
        "int write(int, int, boolean, int)", "int words(int, int)", "int read(int, int, int, int)", "int unlike(int)",
        "int letter(int, int)", "int why(int)", "int minutes(int)", "boolean mark(int, boolean)", "int weight(int, int)",
        "int decides(int, int, int)", "int moved(int, boolean)", "int lose(int, int, int)", "int best(int)", "int path(int, int, int)",
        "int falsely(int)", "boolean give(int, int)", "int spread(int)", "int swap()", "int round(int, int, int)",
        "int ends(int, int, int, int)", "int hands(int)", "int measure(int)", "int plan(int, int)", "int count(int)"};
    private static final String[] FORBIDDEN = {"\\bthrow\\b", "\\bthrows\\b", "\\btry\\b", "\\bcatch\\b", "\\bsynchronized\\b", "\\bassert\\b",
        "->", "::", "\\bvar\\b", "\\brecord\\b", "\\bThread\\b", "\\bSystem\\.(?!arraycopy)", "\\bObject\\b", "\\bMath\\.\\w*Exact\\b",
        "\\bimport\\s+(?!java\\.util\\.(Arrays|ArrayList|List|Iterator);)", "\\bhashCode\\b", "\\btoString\\b", "@\\w+", "\\bpackage\\b",
        "\\bprotected\\b", "\\bstatic\\s*\\{"};
    private static int wrong;

    public static void main(String[] args) throws Exception {
        face();
        source();
        if (wrong > 0) {
            System.exit(1);
        }
        System.out.println("language: nothing stands against it");
    }

    private static void fail(String text) {
        wrong++;
        System.out.println(text);
    }

    private static boolean isHidden(Member member) {
        return Modifier.isPrivate(member.getModifiers()) || member.isSynthetic();
    }

    private static void face() throws Exception {
        Class<?> type = UnaskedLetters.class;
        Set<String> shown = new TreeSet<>();
        Set<String> names = new TreeSet<>();
        for (Method method : type.getDeclaredMethods()) {
            if (!isHidden(method)) {
                String types = Arrays.toString(method.getParameterTypes()).replace("[", "(").replace("]", ")");
                shown.add(method.getReturnType() + " " + method.getName() + types);
                names.add(method.getName());
            }
        }
        if (!shown.equals(new TreeSet<>(Arrays.asList(FACE)))) {
            fail("the methods are not those of the face: " + shown);
        }
        for (Method method : type.getDeclaredMethods()) {
            if (isHidden(method) && names.contains(method.getName())) {
                fail("a private method bears a public name: " + method.getName());
            }
        }
        for (Field field : type.getDeclaredFields()) {
            if (!isHidden(field) && !field.getName().equals("NONE")) {
                fail("a field is shown: " + field.getName());
            }
        }
        Constructor<?>[] constructors = type.getDeclaredConstructors();
        if (constructors.length != 1 || !Modifier.isPublic(constructors[0].getModifiers()) || !Modifier.isFinal(type.getModifiers())) {
            fail("the class is not final, with one public constructor");
        }
        Class<?>[] inside = type.getDeclaredClasses();
        if (inside.length > 12) {
            fail("too many classes: " + inside.length);
        }
        for (Class<?> one : inside) {
            int fields = 0;
            for (Field field : one.getDeclaredFields()) {
                boolean fixed = Modifier.isStatic(field.getModifiers());
                if (fixed && !Modifier.isFinal(field.getModifiers())) {
                    fail("static state: " + field);
                }
                fields += fixed ? 0 : 1;
            }
            if (fields > 20 || !Modifier.isStatic(one.getModifiers())) {
                fail("too many fields, or not static: " + one);
            }
        }
    }

    private static void source() throws Exception {
        String source = Files.readString(Path.of("src/main/java/UnaskedLetters.java"), StandardCharsets.UTF_8);
        for (int i = 0; i < source.length(); i++) {
            if (source.charAt(i) > 126) {
                fail("a sign beyond 126 at " + i);
            }
        }
        String code = source.replaceAll("(?s)/\\*.*?\\*/", "").replaceAll("//[^\n]*", "");
        for (String pattern : FORBIDDEN) {
            Matcher matcher = Pattern.compile(pattern).matcher(code);
            if (matcher.find()) {
                fail("forbidden: " + matcher.group());
            }
        }
        int begun = 0;
        String[] lines = source.split("\n");
        for (int i = 0; i < lines.length; i++) {
            if (lines[i].matches(" {4,8}[A-Za-z].*\\) \\{")) {
                begun = i;
            }
            if (lines[i].matches(" {4,8}\\}") && i - begun > 60) {
                Matcher inner = Pattern.compile("class ").matcher(lines[begun]);
                if (!inner.find() && lines[i].indexOf('}') == lines[begun].length() - lines[begun].stripLeading().length()) {
                    fail("a method of " + (i - begun) + " lines: " + lines[begun].strip());
                }
            }
        }
    }
}
