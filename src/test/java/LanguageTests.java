import java.lang.management.ManagementFactory;
import java.lang.reflect.Constructor;
import java.lang.reflect.Field;
import java.lang.reflect.Method;
import java.lang.reflect.Modifier;
import java.nio.charset.StandardCharsets;
import java.nio.file.Files;
import java.nio.file.Path;
import java.util.Arrays;
import java.util.List;
import java.util.TreeSet;
import java.util.regex.Matcher;
import java.util.regex.Pattern;

/** What can be seen from outside of the rules of LANGUAGE.md; its argument is the source's path. */
public final class LanguageTests {
    private static final List<String> CALLS = List.of("row", "set", "copy", "drop", "feed",
            "ground", "fault", "cross", "undo", "person", "cell", "land", "best", "answer", "game",
            "held", "went", "image", "restore", "kind", "as", "ask", "trace", "count", "status");
    private static final List<String> CONSTANTS = List.of("NONE", "BAD", "STATE", "FULL");

    private static int wrong = 0;

    public static void main(String[] args) throws Exception {
        String source = Files.readString(Path.of(args[0]), StandardCharsets.ISO_8859_1);
        String code = source.replaceAll("(?s)/\\*.*?\\*/", " ").replaceAll("//[^\n]*", " ")
                .replaceAll("'(\\\\.|[^'])'", " ").replaceAll("\"[^\"\n]*\"", " ");
        words(code);
        face();
        inside();
        room();
        System.out.println("the language, " + wrong + " wrong");
        if (wrong != 0) {
            System.exit(1);
        }
    }

    private static void must(boolean holds, String what) {
        if (!holds) {
            wrong++;
            System.out.println("language: " + what);
        }
    }

    private static void words(String code) {
        String[] barred = {"\\b(throws?|try|catch|finally|synchronized|assert|package|import)\\b",
            "->", "::", "\\b(equals|hashCode|toString)\\s*\\(", "Exact\\b",
            "\\b(System\\.(?!arraycopy)|Thread|Random|Object|Scanner|Files?)\\b",
            "\\b(HashMap|Map|Set|Deque|Optional|Stream|Collections)\\b", "\\bgetClass\\b",
            "\\bnew\\s+\\w+\\s*\\([^;]*\\)\\s*\\{"};
        for (String pattern : barred) {
            Matcher m = Pattern.compile(pattern).matcher(code);
            must(!m.find(), "the source has '" + (m.reset().find() ? m.group() : "") + "'");
        }
    }

    private static void face() {
        Class<?> face = BorderBeds.class;
        must(Modifier.isPublic(face.getModifiers()) && Modifier.isFinal(face.getModifiers()),
                "the class is not public and final");
        TreeSet<String> calls = new TreeSet<>();
        for (Method m : face.getDeclaredMethods()) {
            boolean isPublic = Modifier.isPublic(m.getModifiers());
            must(isPublic || Modifier.isPrivate(m.getModifiers()), m + " is seen");
            must(!isPublic || calls.add(m.getName()), m + " is there twice");
            must(isPublic || !CALLS.contains(m.getName()), m + " has a public one's name");
        }
        must(calls.equals(new TreeSet<>(CALLS)), "the calls are " + calls);
        TreeSet<String> constants = new TreeSet<>();
        for (Field f : face.getDeclaredFields()) {
            boolean isPublic = Modifier.isPublic(f.getModifiers());
            must(isPublic || Modifier.isPrivate(f.getModifiers()), f + " is seen");
            must(!isPublic || constants.add(f.getName()), f + " is there twice");
        }
        must(constants.equals(new TreeSet<>(CONSTANTS)), "the constants are " + constants);
        Constructor<?>[] made = face.getDeclaredConstructors();
        must(made.length == 1 && made[0].getParameterCount() == 0, "the constructors");
    }

    private static void inside() {
        Class<?>[] inside = BorderBeds.class.getDeclaredClasses();
        must(inside.length < 12, "there are more than twelve classes");
        for (Class<?> c : inside) {
            must(Modifier.isStatic(c.getModifiers()), c + " is not static");
            must(!Modifier.isPublic(c.getModifiers()), c + " is public");
            long own = Arrays.stream(c.getDeclaredFields())
                    .filter(f -> !Modifier.isStatic(f.getModifiers())).count();
            must(own <= 20, c + " has more than twenty fields");
            for (Field f : c.getDeclaredFields()) {
                must(!Modifier.isStatic(f.getModifiers()) || Modifier.isFinal(f.getModifiers()),
                        f + " is static and not final");
            }
            for (Method m : c.getDeclaredMethods()) {
                must(!CALLS.contains(m.getName()), m + " has a public one's name");
                must(m.getParameterCount() <= 7, m + " takes more than seven");
            }
        }
    }

    /** The dearest run: a GROUND at all calls but one; a field or element has 4 bytes or more. */
    private static void room() {
        com.sun.management.ThreadMXBean bean =
                (com.sun.management.ThreadMXBean) ManagementFactory.getThreadMXBean();
        long ahead = bean.getThreadAllocatedBytes(Thread.currentThread().getId());
        BorderBeds x = new BorderBeds();
        for (int i = 0; i < 512; i++) {
            x.feed(0x3b, 1);
            x.ground();
            x.ask(0, 0);
            x.game(0, 1, 0);
        }
        long bytes = bean.getThreadAllocatedBytes(Thread.currentThread().getId()) - ahead;
        must(bytes < 600000L * 16, "a run makes " + bytes + " bytes");
    }
}
