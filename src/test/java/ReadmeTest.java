import java.lang.reflect.Method;
import java.lang.reflect.Modifier;
import java.net.URL;
import java.net.URLClassLoader;
import java.nio.file.Files;
import java.nio.file.Path;
import java.util.regex.Matcher;
import java.util.regex.Pattern;
import javax.tools.ToolProvider;

/**
 * The calls that README.md shows answer what it says: its Java blocks are compiled as they stand,
 * but for each line with a call the answer is compared with the one told behind it.
 */
public final class ReadmeTest {
    /** For the program that is made of the README, which another class loader loads. */
    public interface Shown {
        Object answer();
    }

    private static final Pattern BLOCK = Pattern.compile("(?ms)^```java\n(.*?)^```$");
    private static final Pattern CALL = Pattern.compile("((?:x|text)\\.[^;]*);\\s*// ([^:]*)(?:: .*)?");
    private static final String NO_ANSWER = "x.clear();";
    private static final String PROGRAM = "ReadmeCalls";

    private ReadmeTest() {
    }

    public static void main(String[] args) throws Exception {
        String readme = Files.readString(Path.of(args.length > 1 ? args[1] : "README.md"));
        needsEachCallOfTheFace(readme);
        Path room = Files.createTempDirectory("readme");
        try {
            run(room, program(readme));
        } finally {
            Files.deleteIfExists(room.resolve(PROGRAM + ".java"));
            Files.deleteIfExists(room.resolve(PROGRAM + ".class"));
            Files.delete(room);
        }
        Check.finish();
    }

    /** Called by the program that is made of the README. */
    public static void said(String call, String answer, Shown shown) {
        String got;
        try {
            got = String.valueOf(shown.answer());
        } catch (RuntimeException e) {
            got = "throws " + e.getClass().getSimpleName();
        }
        Check.tell("README.md: " + call, got, answer);
    }

    private static void needsEachCallOfTheFace(String readme) {
        for (Method m : CivilDays.class.getDeclaredMethods()) {
            if (Modifier.isPublic(m.getModifiers())) {
                Check.tell("README.md shows a call of " + m.getName(),
                        String.valueOf(readme.contains("\nx." + m.getName() + "(")), "true");
            }
        }
    }

    private static String program(String readme) {
        StringBuilder program = new StringBuilder("public final class " + PROGRAM + " {\n");
        program.append("public static void run() {\n");
        Matcher block = BLOCK.matcher(readme);
        while (block.find()) {
            program.append("{\n");
            for (String line : block.group(1).split("\n")) {
                program.append(compared(line)).append('\n');
            }
            program.append("}\n");
        }
        return program.append("}\n}\n").toString();
    }

    private static String compared(String line) {
        Matcher call = CALL.matcher(line);
        if (!line.startsWith(NO_ANSWER) && call.matches()) {
            return "ReadmeTest.said(" + quoted(call.group(1)) + ", " + quoted(call.group(2)) + ", () -> "
                    + call.group(1) + ");";
        }
        if (!line.startsWith(NO_ANSWER) && line.startsWith("x.")) {
            Check.fault("README.md tells no answer of " + line);
        }
        return line;
    }

    private static String quoted(String text) {
        return "\"" + text.replace("\\", "\\\\").replace("\"", "\\\"") + "\"";
    }

    private static void run(Path room, String program) throws Exception {
        Path source = Files.writeString(room.resolve(PROGRAM + ".java"), program);
        int failed = ToolProvider.getSystemJavaCompiler().run(null, null, null, "-cp",
                System.getProperty("java.class.path"), "-d", room.toString(), source.toString());
        if (failed != 0) {
            Check.fault("the Java of README.md does not compile");
            return;
        }
        try (URLClassLoader loader = new URLClassLoader(new URL[] {room.toUri().toURL()})) {
            loader.loadClass(PROGRAM).getMethod("run").invoke(null);
        }
    }
}
