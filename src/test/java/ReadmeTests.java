import java.io.IOException;
import java.lang.reflect.Method;
import java.lang.reflect.Modifier;
import java.nio.charset.StandardCharsets;
import java.nio.file.Files;
import java.nio.file.Path;
import java.util.ArrayList;
import java.util.List;
import java.util.TreeSet;
import java.util.regex.Matcher;
import java.util.regex.Pattern;

/**
 * What README.md shows: its program, compiled and run by its own commands, and each call with its
 * answer. The arguments are the page, the program's source, and a directory to work in.
 */
public final class ReadmeTests {
    private record Block(String language, String body) { }

    private static final Pattern CALL = Pattern.compile(
            "x\\.([a-z]+)\\((.*)\\);\\s*// (-?[0-9]+|NONE|BAD|STATE|FULL)(:.*)?");

    private static int wrong = 0;

    private ReadmeTests() { }

    public static void main(String[] args) throws Exception {
        String page = Files.readString(Path.of(args[0]), StandardCharsets.US_ASCII);
        Path source = Path.of(args[1]);
        Path room = Path.of(args[2]);
        List<Block> blocks = blocks(page);
        Path besideSource = room.resolve("src/main/java");
        Files.createDirectories(besideSource);
        Files.copy(source, besideSource.resolve("BorderBeds.java"));
        programPrints(blocks, room);
        int calls = callsAnswer(blocks, room);
        pageTells(page);
        System.out.println("README.md, " + calls + " calls, " + wrong + " wrong");
        if (wrong != 0) {
            System.exit(1);
        }
    }

    private static void must(boolean holds, String what) {
        if (!holds) {
            wrong++;
            System.out.println("README.md: " + what);
        }
    }

    private static List<Block> blocks(String page) {
        List<Block> all = new ArrayList<>();
        Matcher m = Pattern.compile("(?ms)^```([a-z]+)\\n(.*?)^```$").matcher(page);
        while (m.find()) {
            all.add(new Block(m.group(1), m.group(2)));
        }
        return all;
    }

    private static String first(List<Block> blocks, String language) {
        for (Block b : blocks) {
            if (b.language().equals(language)) {
                return b.body();
            }
        }
        must(false, "there is no block of " + language);
        return "";
    }

    /** The first blocks are a program, the commands that compile and run it, and what it prints. */
    private static void programPrints(List<Block> blocks, Path room) throws Exception {
        String program = first(blocks, "java");
        must(program.startsWith("public final class Mine {"), "the first program is not Mine");
        Files.writeString(room.resolve("Mine.java"), program);
        String printed = shell(first(blocks, "sh"), room);
        must(printed.equals(first(blocks, "text")), "its program prints\n" + printed);
    }

    private static String shell(String commands, Path room) throws Exception {
        Process p = new ProcessBuilder("sh", "-eu", "-c", commands).directory(room.toFile())
                .redirectErrorStream(true).start();
        String printed = new String(p.getInputStream().readAllBytes(), StandardCharsets.US_ASCII);
        int code = p.waitFor();
        must(code == 0, "its commands end with " + code);
        return printed;
    }

    /** The other programs are one run of calls: each call's line becomes a check of its answer. */
    private static int callsAnswer(List<Block> blocks, Path room) throws Exception {
        StringBuilder lines = new StringBuilder();
        TreeSet<String> names = new TreeSet<>();
        TreeSet<String> answers = new TreeSet<>();
        int calls = 0;
        int programs = 0;
        for (Block b : blocks) {
            programs += b.language().equals("java") ? 1 : 0;
            if (!b.language().equals("java") || programs == 1) {
                continue;
            }
            for (String line : b.body().split("\n")) {
                Matcher m = CALL.matcher(line);
                boolean isCall = m.matches();
                must(isCall || !line.startsWith("x."), "no answer is told in: " + line);
                if (isCall) {
                    calls++;
                    names.add(m.group(1));
                    answers.add(m.group(3));
                }
                lines.append(isCall ? check(m) : line).append('\n');
            }
        }
        all(names, answers);
        Files.writeString(room.resolve("Shown.java"), shown(lines));
        String printed = shell("javac --release 17 -d shown src/main/java/BorderBeds.java Shown.java\n"
                + "java -cp shown Shown\n", room);
        must(printed.isEmpty(), printed);
        return calls;
    }

    private static String check(Matcher m) {
        boolean isName = Character.isUpperCase(m.group(3).charAt(0));
        String call = "x." + m.group(1) + "(" + m.group(2) + ")";
        return "due(\"" + call + "\", " + call + ", " + (isName ? "BorderBeds." : "") + m.group(3)
                + ");";
    }

    private static String shown(CharSequence lines) {
        return "public final class Shown {\n"
                + "static boolean wrong = false;\n"
                + "static void due(String call, int got, int due) {\n"
                + "if (got != due) { wrong = true;\n"
                + "System.out.println(call + \" answers \" + got + \", it says \" + due); } }\n"
                + "public static void main(String[] args) {\n" + lines
                + "if (wrong) { System.exit(1); } } }\n";
    }

    private static void all(TreeSet<String> names, TreeSet<String> answers) {
        for (Method m : BorderBeds.class.getDeclaredMethods()) {
            if (Modifier.isPublic(m.getModifiers())) {
                must(names.contains(m.getName()), "no call of " + m.getName() + " is shown");
            }
        }
        for (String answer : List.of("NONE", "BAD", "STATE", "FULL", "-1000011", "-1000012",
                "-1000013", "-1000014", "-1000015")) {
            must(answers.contains(answer), "no call that answers " + answer + " is shown");
        }
    }

    private static void pageTells(String page) throws IOException {
        must(page.contains("`src/main/java/BorderBeds.java`"), "where the class lies is not told");
        must(page.contains("512 calls"), "for how many calls an object may be used is not told");
        must(page.contains("\n    .ci/run\n") && Files.isExecutable(Path.of(".ci/run")),
                "the command that runs the tests is not told, or not there");
        must(page.contains("`NONE` (" + BorderBeds.NONE + ")"), "NONE is not told");
        must(page.contains("| " + BorderBeds.BAD + " | `BAD` |"), "BAD is not told");
        must(page.contains("| " + BorderBeds.STATE + " | `STATE` |"), "STATE is not told");
        must(page.contains("| " + BorderBeds.FULL + " | `FULL` |"), "FULL is not told");
        for (Method m : BorderBeds.class.getDeclaredMethods()) {
            if (Modifier.isPublic(m.getModifiers())) {
                must(page.contains("| `" + m.getName() + "("), m.getName() + " has no row");
            }
        }
    }
}
