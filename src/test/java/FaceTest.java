import java.io.IOException;
import java.lang.reflect.Constructor;
import java.lang.reflect.Field;
import java.lang.reflect.Method;
import java.lang.reflect.Modifier;
import java.nio.file.Files;
import java.nio.file.Path;
import java.util.Set;
import java.util.TreeSet;
import java.util.regex.Matcher;
import java.util.regex.Pattern;

/** The face is the document's, with its throws clauses in their order, and nothing beside it. */
public final class FaceTest {
    private static final String OUT = "IndexOutOfBoundsException";
    private static final String STATE = "IllegalStateException";
    private static final String ARGUMENT = "IllegalArgumentException";

    private static final String[] FACE = {
        "addSense 0 " + STATE,
        "link 2 " + OUT + " " + STATE,
        "unlink 2 " + OUT + " " + STATE,
        "remove 1 " + OUT + " " + STATE,
        "setCount 2 " + OUT + " " + ARGUMENT,
        "addWord 0 " + STATE,
        "give 2 " + OUT + " " + STATE,
        "take 2 " + OUT + " " + STATE,
        "lock 2 " + OUT + " " + STATE,
        "say 1 " + OUT + " " + STATE,
        "hush 0",
        "senses 0",
        "parents 1 " + OUT,
        "above 1 " + OUT,
        "below 1 " + OUT,
        "mass 1 " + OUT,
        "massByWalks 1 " + OUT,
        "depth 1 " + OUT,
        "shared 2 " + OUT,
        "distance 2 " + OUT,
        "likeness 3 " + OUT + " " + ARGUMENT,
        "choices 0",
        "bestWorth 1 " + ARGUMENT,
        "greatestWorth 1 " + ARGUMENT,
        "chosen 2 " + OUT + " " + ARGUMENT,
    };

    private static final String ORDER = "---- senses: addSense link unlink remove setCount"
            + " ---- words and the sentence: addWord give take lock say hush"
            + " ---- the net; nothing from here on changes anything: senses parents above below mass massByWalks"
            + " depth shared distance likeness"
            + " ---- choices: choices bestWorth greatestWorth chosen";

    public static void main(String[] args) throws IOException {
        Set<String> want = new TreeSet<>(Set.of(FACE));
        Set<String> got = new TreeSet<>();
        for (Method method : SenseNet.class.getDeclaredMethods()) {
            if (!Modifier.isPrivate(method.getModifiers()) && !method.isSynthetic()) {
                got.add(written(method));
                checkTypes(method);
            } else {
                check(method.getName() + " bears no public name", !isOfFace(method));
            }
        }
        Due.compare("the face", got.toString(), want.toString());
        for (Field field : SenseNet.class.getDeclaredFields()) {
            check(field.getName() + " is private", Modifier.isPrivate(field.getModifiers()));
        }
        check("the class is public and final", Modifier.toString(SenseNet.class.getModifiers()).equals("public final"));
        Constructor<?>[] constructors = SenseNet.class.getDeclaredConstructors();
        check("one constructor", constructors.length == 1 && constructors[0].getParameterCount() == 0
                && Modifier.isPublic(constructors[0].getModifiers()));
        for (Class<?> inside : SenseNet.class.getDeclaredClasses()) {
            check(inside.getName() + " is static and not public", Modifier.isStatic(inside.getModifiers())
                    && !Modifier.isPublic(inside.getModifiers()) && !Modifier.isProtected(inside.getModifiers()));
            for (Method method : inside.getDeclaredMethods()) {
                check(inside.getName() + "." + method.getName() + " bears no public name", !isOfFace(method));
            }
        }
        Due.compare("the headings and calls", order(Files.readString(Path.of("src/main/java/SenseNet.java"))), ORDER);
        Due.end();
    }

    /** What the face says ahead of its calls, and the calls, as they stand in the file. */
    private static String order(String source) {
        StringBuilder text = new StringBuilder();
        Matcher found = Pattern.compile("(?m)^    (?:// (---- .*)|public int (\\w+)\\()").matcher(source);
        while (found.find()) {
            text.append(' ').append(found.group(1) != null ? found.group(1) + ":" : found.group(2));
        }
        return text.toString().strip();
    }

    private static String written(Method method) {
        StringBuilder text = new StringBuilder(method.getName() + " " + method.getParameterCount());
        for (Class<?> thrown : method.getExceptionTypes()) {
            text.append(' ').append(thrown.getSimpleName());
        }
        return text.toString();
    }

    private static boolean isOfFace(Method method) {
        for (String row : FACE) {
            if (row.startsWith(method.getName() + " ")) {
                return true;
            }
        }
        return false;
    }

    private static void checkTypes(Method method) {
        check(method.getName() + " is public and of the object", method.getModifiers() == Modifier.PUBLIC);
        check(method.getName() + " returns an int", method.getReturnType() == int.class);
        for (Class<?> type : method.getParameterTypes()) {
            check(method.getName() + " takes ints", type == int.class);
        }
    }

    private static void check(String what, boolean holds) {
        Due.compare(what, String.valueOf(holds), "true");
    }
}
