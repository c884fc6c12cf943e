import java.lang.reflect.Constructor;
import java.lang.reflect.Field;
import java.lang.reflect.Method;
import java.lang.reflect.Modifier;
import java.nio.charset.StandardCharsets;
import java.nio.file.Files;
import java.nio.file.Path;
import java.util.ArrayList;
import java.util.List;
import java.util.Set;
import java.util.TreeSet;
import java.util.regex.Matcher;
import java.util.regex.Pattern;

/** What of LANGUAGE.md can be seen by reflection or by reading the source; run from the project's folder. */
public final class LanguageTest {
    private static final Due due = new Due();
    private static final String FACE = "state(int)int glass(int)int witness(int)int set(int,int,int)boolean act(int,int,int)boolean "
        + "minutes(int)int feed(int,int,int,int,int)int end(int)boolean text(int)int fault(int)int of(int,int)int who(int,int)int "
        + "near(int,int)int book(int,int)int goes(int,int)int top(int)int hottest(int,int)int warmth(int,int)int fits(int,int)int "
        + "words(int,int)int world(int,int)int sure(int,int,int)int point(int,int)int term()int saying(int,int)int cool(int,int)int "
        + "coal(int)int coals(int)int shown(int)int show(int,int)int cost(int,int)boolean change(int,int,int)int dear(int,int)int "
        + "reading(int)int steady(int,int)int quiet(int,int)int dog(int)int dogs(int)int juror(int)int jury(int,int)int "
        + "undo()boolean image(boolean)boolean look(int)int";

    public static void main(String[] args) throws Exception {
        face();
        classes();
        source(Files.readString(Path.of("src/main/java/TongueGlass.java"), StandardCharsets.UTF_8));
        due.tell();
    }

    private static void wrong(String what) {
        due.is(what, 1, 0);
    }

    private static void face() {
        Set<String> want = new TreeSet<>(List.of(FACE.split(" ")));
        Set<String> got = new TreeSet<>();
        for (Method m : TongueGlass.class.getDeclaredMethods()) {
            if (Modifier.isPublic(m.getModifiers())) {
                got.add(signature(m));
            } else if (!Modifier.isPrivate(m.getModifiers())) {
                wrong("a method that is neither public nor private: " + m);
            }
        }
        due.is("the face " + got, got.equals(want), true);
        Constructor<?>[] made = TongueGlass.class.getDeclaredConstructors();
        due.is("one constructor", made.length, 1);
        due.is("public", Modifier.isPublic(made[0].getModifiers()) && made[0].getParameterCount() == 0, true);
        due.is("final", Modifier.isFinal(TongueGlass.class.getModifiers()), true);
        for (Field f : TongueGlass.class.getDeclaredFields()) {
            boolean constant = f.getName().equals("NONE") && Modifier.isPublic(f.getModifiers());
            if (!constant && !Modifier.isPrivate(f.getModifiers())) {
                wrong("a field that can be seen: " + f);
            }
        }
    }

    private static String signature(Method m) {
        List<String> parameters = new ArrayList<>();
        for (Class<?> c : m.getParameterTypes()) {
            parameters.add(c.getSimpleName());
        }
        return m.getName() + "(" + String.join(",", parameters) + ")" + m.getReturnType().getSimpleName();
    }

    private static void classes() {
        List<Class<?>> all = new ArrayList<>(List.of(TongueGlass.class.getDeclaredClasses()));
        due.is("some twelve classes", all.size() + 1 <= 15, true);
        for (Class<?> c : all) {
            due.is(c + " is static", Modifier.isStatic(c.getModifiers()), true);
            for (Method m : c.getDeclaredMethods()) {
                if (Modifier.isPrivate(m.getModifiers()) && (" " + FACE).contains(" " + m.getName() + "(")) {
                    wrong("a private method with a name of the face: " + m);
                }
                if (!c.isRecord() && Set.of("equals", "hashCode", "toString").contains(m.getName())) {
                    wrong("a class's own " + m.getName() + ": " + m);
                }
            }
        }
        all.add(TongueGlass.class);
        for (Class<?> c : all) {
            int fields = 0;
            for (Field f : c.getDeclaredFields()) {
                boolean shared = Modifier.isStatic(f.getModifiers());
                fields += shared ? 0 : 1;
                if (shared && !Modifier.isFinal(f.getModifiers())) {
                    wrong("shared state: " + f);
                }
            }
            due.is(c + " has some twenty fields", fields <= 25, true);
            for (Method m : c.getDeclaredMethods()) {
                due.is(m + " takes seven at most", m.getParameterCount() <= 7, true);
            }
        }
    }

    private static void source(String text) {
        String bare = text.replaceAll("(?s)/\\*.*?\\*/", "").replaceAll("//[^\n]*", "").replaceAll("\"[^\"]*\"", "\"\"");
        bare = bare.replaceAll("(?m)^import java\\.util\\.(ArrayList|List|Arrays|Iterator);", "")
            .replaceAll("(\\bcase\\b[^:;{}>]*|\\bdefault\\s*)->", "");
        String banned = "\\b(throw|throws|try|catch|synchronized|assert|package|import|Object|Exception|Error|"
            + "hashCode|System\\.out|Random|Thread|volatile|transient|native|protected)\\b|->|::|Exact\\(";
        Matcher m = Pattern.compile(banned).matcher(bare);
        while (m.find()) {
            wrong("banned: " + m.group());
        }
        due.is("only the class itself and its classes are private", count(bare, "(?m)^public final class TongueGlass \\{"), 1);
        methodLengths(bare.split("\n"));
        for (char c : bare.toCharArray()) {
            if (c > 126 || c < 32 && c != '\n') {
                wrong("a sign that is not plain: " + (int) c);
            }
        }
    }

    private static int count(String text, String pattern) {
        Matcher m = Pattern.compile(pattern).matcher(text);
        int n = 0;
        while (m.find()) {
            n++;
        }
        return n;
    }

    private static void methodLengths(String[] lines) {
        int start = -1;
        String close = "";
        for (int i = 0; i < lines.length; i++) {
            String line = lines[i];
            if (start < 0 && line.matches("( {4}| {8})[a-zA-Z].*\\) \\{") && !line.trim().startsWith("for")) {
                start = i;
                close = line.substring(0, line.length() - line.stripLeading().length()) + "}";
            } else if (start >= 0 && line.equals(close)) {
                due.is("some sixty lines: " + lines[start].trim(), i - start < 75, true);
                start = -1;
            }
        }
    }
}
