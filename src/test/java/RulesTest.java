import java.lang.management.ManagementFactory;
import java.lang.reflect.Constructor;
import java.lang.reflect.Field;
import java.lang.reflect.Method;
import java.lang.reflect.Modifier;
import java.nio.file.Files;
import java.nio.file.Path;
import java.util.ArrayList;
import java.util.Arrays;
import java.util.List;
import java.util.regex.Matcher;
import java.util.regex.Pattern;

/** What of ../shared/LANGUAGE.md can be asked by a look at the class and at its source; and how much room calls take. */
public final class RulesTest {
    private static final Path SOURCE = Path.of("src/main/java/LagoonOpera.java");
    private static final Path DOCUMENT = Path.of("../shared/DOC.md");

    public static void main(String[] args) throws Exception {
        face();
        insideClasses();
        words();
        lengths();
        room();
        Due.end();
    }

    private static void face() throws Exception {
        List<String> due = new ArrayList<>();
        Matcher lines = Pattern.compile("(?m)^    public (int|long) (\\w+)\\(([^)]*)\\);$").matcher(Files.readString(DOCUMENT));
        while (lines.find()) {
            StringBuilder signature = new StringBuilder(lines.group(1) + " " + lines.group(2));
            for (String parameter : lines.group(3).split(", ")) {
                if (!parameter.isEmpty()) signature.append(' ').append(parameter.split(" ")[0]);
            }
            due.add(signature.toString());
        }
        Due.is("methods of the face", due.size(), 41);
        List<String> names = new ArrayList<>();
        for (Method method : LagoonOpera.class.getDeclaredMethods()) {
            if (Modifier.isPrivate(method.getModifiers())) continue;
            StringBuilder signature = new StringBuilder(method.getReturnType() + " " + method.getName());
            for (Class<?> parameter : method.getParameterTypes()) signature.append(' ').append(parameter);
            Due.holds(signature + " is in the document", due.remove(signature.toString()));
            Due.is(method + ": modifiers", method.getModifiers(), Modifier.PUBLIC);
            names.add(method.getName());
        }
        Due.holds("nothing of the face is missing: " + due, due.isEmpty());
        for (Class<?> one : classes()) {
            for (Method method : one.getDeclaredMethods()) {
                boolean ofTheFace = one == LagoonOpera.class && Modifier.isPublic(method.getModifiers());
                Due.holds(method + " bears no name of a public one", ofTheFace || !names.contains(method.getName()));
            }
        }
        Due.is("modifiers of the class", LagoonOpera.class.getModifiers(), Modifier.PUBLIC | Modifier.FINAL);
        Constructor<?>[] constructors = LagoonOpera.class.getDeclaredConstructors();
        Due.is("constructors", constructors.length, 1);
        Due.is("modifiers of the constructor", constructors[0].getModifiers(), Modifier.PUBLIC);
        for (Field field : LagoonOpera.class.getDeclaredFields()) {
            Due.holds(field + " is private", Modifier.isPrivate(field.getModifiers()));
        }
    }

    private static List<Class<?>> classes() {
        List<Class<?>> classes = new ArrayList<>(Arrays.asList(LagoonOpera.class.getDeclaredClasses()));
        classes.add(LagoonOpera.class);
        return classes;
    }

    private static void insideClasses() {
        Due.holds("twelve classes at most", classes().size() <= 12);
        for (Class<?> one : classes()) {
            int fields = 0;
            for (Field field : one.getDeclaredFields()) {
                boolean still = Modifier.isStatic(field.getModifiers());
                Due.holds(field + " is final if static", !still || Modifier.isFinal(field.getModifiers()));
                if (!still) fields++;
            }
            Due.holds(one + ": twenty fields at most", fields <= 20);
            for (Method method : one.getDeclaredMethods()) {
                Due.holds(method + ": seven parameters at most", method.getParameterCount() <= 7);
                Due.holds(method + " is none of the compiler's", !method.isSynthetic());
            }
            if (one == LagoonOpera.class) continue;
            Due.holds(one + " is static", Modifier.isStatic(one.getModifiers()));
            Due.holds(one + " is inside alone", !Modifier.isPublic(one.getModifiers()) && !Modifier.isProtected(one.getModifiers()));
        }
    }

    /** The source without comments, and without what stands in texts and signs. */
    private static String bareSource() throws Exception {
        String source = Files.readString(SOURCE);
        source = source.replaceAll("(?s)/\\*.*?\\*/", " ").replaceAll("//[^\n]*", " ");
        return source.replaceAll("'(\\\\.|[^'\\\\])'", "' '").replaceAll("\"(\\\\.|[^\"\\\\])*\"", "\"\"");
    }

    private static void words() throws Exception {
        String source = bareSource();
        String[] forbidden = {
            "\\b(throw|throws|try|catch|finally|synchronized|assert|native|volatile|transient|strictfp|instanceof)\\b",
            "->", "::", "\\bpackage\\b", "\\b(Object|Class|Thread|Random|Scanner|Exact|NaN|equals|hashCode|toString)\\b",
            "\\w+Exact\\b", "System\\.(?!arraycopy\\b)", "Arrays\\.(?!(fill|copyOf|copyOfRange)\\b)", "\\bimport (?!java\\.util\\.Arrays;)",
            "Math\\.(?!(abs|max|min|floorDiv|floorMod)\\b)", "\\bstatic \\{", "\\b(float|double)\\b", "\"",
        };
        for (String word : forbidden) {
            Matcher found = Pattern.compile(word).matcher(source);
            Due.holds("no " + word, !found.find());
        }
        for (char sign : Files.readString(SOURCE).toCharArray()) {
            if (sign > 126) Due.holds("sign " + (int) sign, false);
        }
        Due.is("classes", source.split("\\bclass\\b").length - 1, classes().size());
    }

    private static void lengths() throws Exception {
        int start = 0;
        int line = 0;
        String head = "";
        for (String text : Files.readAllLines(SOURCE)) {
            line++;
            if (text.matches("( {4}| {8})[^ @*/}].*\\) \\{")) {
                start = line;
                head = text.trim();
            }
            if (text.matches("( {4}| {8})}") && start > 0) {
                Due.holds(head + " has sixty lines at most", line - start <= 60);
                start = 0;
            }
            Due.holds("line " + line + " isn't too long", text.length() <= 120);
        }
    }

    /** The dearest calls make nothing: what a run makes is what its objects have made at first. */
    private static void room() {
        com.sun.management.ThreadMXBean threads = (com.sun.management.ThreadMXBean) ManagementFactory.getThreadMXBean();
        long id = Thread.currentThread().getId();
        dear(new LagoonOpera());
        LagoonOpera x = new LagoonOpera();
        long ahead = threads.getThreadAllocatedBytes(id);
        dear(x);
        long made = threads.getThreadAllocatedBytes(id) - ahead;
        Due.holds("calls make nothing, but " + made + " bytes", made < 4096);
    }

    private static void dear(LagoonOpera x) {
        for (int boat = 0; boat < 9; boat++) {
            x.boat(20 + boat, boat);
            x.change(boat, 3, -1);
        }
        for (int listener = 0; listener < 6; listener++) x.listener(listener);
        for (int i = 0; i < 3; i++) {
            x.feed(0x2b642a73, 4);
            x.feed(0x74, 1);
            x.text(0);
            x.feed(0x2b692a74, 4);
            x.feed(0x6e, 1);
            x.text(1);
            x.mooring(1, 9, 128);
            x.sooner(1, 9, 128);
            x.place(128);
            x.fitSpeed(4, 128);
            x.fromHere(128);
            x.loose(100);
            x.tell(9);
            x.check(0);
            x.voice(6, 3, 4);
            x.image();
            x.sheet(0, 8, 40);
            x.judge(0, 1);
            x.restore();
            x.thenListener(128, 0, 1);
            x.whereFrom(9, 9, 9);
        }
    }
}
