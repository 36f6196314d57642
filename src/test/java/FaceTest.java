import java.io.IOException;
import java.lang.reflect.Constructor;
import java.lang.reflect.Field;
import java.lang.reflect.Method;
import java.lang.reflect.Modifier;
import java.nio.file.Files;
import java.nio.file.Path;
import java.util.Arrays;
import java.util.TreeSet;
import java.util.regex.Matcher;
import java.util.regex.Pattern;

/** The class shows the document's face, with what each call throws, and nothing else. */
public final class FaceTest {
    private static final String I = "IndexOutOfBoundsException";
    private static final String A = "IllegalArgumentException";
    private static final String S = "IllegalStateException";
    private static final String U = "UnsupportedOperationException";

    private static final String[] METHODS = {
        "int civil(int, int, int, int) " + I + " " + A,
        "int days(int, int) " + I + " " + A,
        "int week(int, int, int, int) " + I + " " + A,
        "int easter(int, int) " + I + " " + A,
        "int nth(int, int, int, int, int) " + I + " " + A,
        "int move(int, int, int) " + I + " " + A + " " + S + " " + U,
        "int told(int, int) " + I + " " + A + " " + S,
        "int between(int, int, int) " + I + " " + A + " " + S,
        "int copy(int, int) " + I + " " + S,
        "int holiday(int, int, int, int) " + A + " " + U,
        "int noHoliday(int) " + I,
        "int weekend(int) " + A,
        "int isHoliday(int) " + I + " " + S,
        "int work(int, int) " + I + " " + S + " " + A,
        "int moveWork(int, int) " + I + " " + S + " " + A + " " + U,
        "int write(int, int) " + I + " " + A + " " + S,
        "int charAt(int) " + I,
        "int type(int) " + A + " " + U,
        "int read(int) " + I,
        "void clear()",
    };

    private static final Pattern FACE = Pattern.compile("(?ms)^public final class CivilDays \\{\n(.*?)^\\}$");

    public static void main(String[] args) throws IOException {
        Check.tell("the class", Modifier.toString(CivilDays.class.getModifiers()), "public final");
        Check.tell("methods", visibleMethods().toString(),
                new TreeSet<>(Arrays.asList(METHODS)).toString());
        Check.tell("fields", visibleFields().toString(), "[public static final int NONE]");
        Check.tell("constructors", visibleConstructors().toString(), "[public CivilDays()]");
        for (Class<?> inside : CivilDays.class.getDeclaredClasses()) {
            Check.tell(inside.getName() + " is static",
                    String.valueOf(Modifier.isStatic(inside.getModifiers())), "true");
        }
        Check.same("NONE", CivilDays.NONE, -1);
        if (args.length > 0 && Files.isRegularFile(Path.of(args[0]))) {
            Check.tell("the face that this test wants", wantedFace().toString(),
                    documentsFace(Files.readString(Path.of(args[0]))).toString());
        }
        Check.finish();
    }

    private static TreeSet<String> wantedFace() {
        TreeSet<String> wanted = new TreeSet<>(Arrays.asList(METHODS));
        wanted.add("static final int NONE = -1");
        wanted.add("CivilDays()");
        return wanted;
    }

    /** The document's face, written as METHODS is: without the names of the parameters. */
    private static TreeSet<String> documentsFace(String document) {
        TreeSet<String> found = new TreeSet<>();
        Matcher face = FACE.matcher(document);
        if (face.find()) {
            for (String line : face.group(1).split("\n")) {
                found.add(line.strip().replaceAll("^public |;$", "").replaceAll("int \\w+([,)])", "int$1")
                        .replace(" throws ", " ").replaceAll("Exception, ", "Exception "));
            }
        }
        return found;
    }

    private static boolean isVisible(int modifiers) {
        return !Modifier.isPrivate(modifiers);
    }

    private static TreeSet<String> visibleMethods() {
        TreeSet<String> found = new TreeSet<>();
        for (Method m : CivilDays.class.getDeclaredMethods()) {
            if (isVisible(m.getModifiers())) {
                found.add(written(m));
            }
        }
        return found;
    }

    private static String written(Method m) {
        StringBuilder text = new StringBuilder(m.getReturnType().getName());
        text.append(' ').append(m.getName());
        String parameters = Arrays.toString(m.getParameterTypes());
        text.append('(').append(parameters, 1, parameters.length() - 1).append(')');
        for (Class<?> thrown : m.getExceptionTypes()) {
            text.append(' ').append(thrown.getSimpleName());
        }
        return text.toString();
    }

    private static TreeSet<String> visibleFields() {
        TreeSet<String> found = new TreeSet<>();
        for (Field f : CivilDays.class.getDeclaredFields()) {
            if (isVisible(f.getModifiers())) {
                found.add(Modifier.toString(f.getModifiers()) + " " + f.getType() + " " + f.getName());
            }
        }
        return found;
    }

    private static TreeSet<String> visibleConstructors() {
        TreeSet<String> found = new TreeSet<>();
        for (Constructor<?> c : CivilDays.class.getDeclaredConstructors()) {
            if (isVisible(c.getModifiers())) {
                found.add(c.toString());
            }
        }
        return found;
    }
}
