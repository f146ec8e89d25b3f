import java.io.IOException;
import java.lang.reflect.Constructor;
import java.lang.reflect.Field;
import java.lang.reflect.Method;
import java.lang.reflect.Modifier;
import java.nio.file.Files;
import java.nio.file.Path;
import java.util.Arrays;
import java.util.Set;
import java.util.TreeSet;

/** The public face is the document's and no more, and the source keeps to what of LANGUAGE.md can be read off it. */
public final class FaceTest {
    private static final String IAE = " throws IllegalArgumentException";
    private static final String IOOBE = " throws IndexOutOfBoundsException";
    private static final String[] FACE = {
        "int addChamber(int,int,int)" + IAE + ",IllegalStateException",
        "int addPassage(int,int,int,int)" + IOOBE + ",IllegalArgumentException,IllegalStateException",
        "int setWater(int)" + IAE,
        "int setBats(int,int)" + IOOBE + ",IllegalArgumentException",
        "int setClapper(int,int,int)" + IOOBE + ",IllegalArgumentException",
        "int setEar(int)" + IAE,
        "int chamber(int,int)" + IOOBE,
        "int passage(int,int)" + IOOBE,
        "int say(int,int)" + IAE,
        "int heard(int,int)" + IOOBE,
        "boolean inOrder()",
        "int first(int)" + IOOBE,
        "int count(int)" + IOOBE,
        "int would(int,int,int)" + IAE + ",IndexOutOfBoundsException",
        "int advise(int,int,int,int)" + IAE,
        "int longest(int,int)" + IAE,
        "int quickest(int)" + IAE,
        "int way(int,int)" + IOOBE,
        "int highest(int)" + IOOBE,
        "double mean()",
        "long digest()",
    };
    private static final String[] HEADLINES = {
        "addChamber", "// ---- the cave", "say", "// ---- words", "would", "// ---- what would be",
    };
    private static final String[] RULED_OUT = {
        "package ", "->", "::", "catch", "finally", "synchronized", "assert ", "instanceof", "import java.io",
        "Random", "System.", "Exact(", "record ", "String.format",
    };

    public static void main(String[] args) throws IOException {
        Checks checks = new Checks();
        checks.is("modifiers of the class", EchoCave.class.getModifiers(), Modifier.PUBLIC | Modifier.FINAL);
        checkMethods(checks);
        checkOtherMembers(checks);
        String source = Files.readString(Path.of("src/main/java/EchoCave.java"));
        for (String word : RULED_OUT) {
            checks.is("the source has '" + word + "'", source.contains(word), false);
        }
        checkWordsOfTheDocument(checks, Document.onOneLine(source));
        checks.end();
    }

    /** Each declaration as the document writes it, with the names of its parameters, and in its order. */
    private static void checkWordsOfTheDocument(Checks checks, String source) throws IOException {
        int from = 0;
        for (String declaration : Document.face()) {
            int at = source.indexOf(" " + declaration + " {", from);
            checks.is("the source has, in its place, " + declaration, at >= 0, true);
            from = Math.max(from, at);
            checkHeadline(checks, source, declaration);
        }
    }

    /** The interface says these ahead of the first call of each part. */
    private static void checkHeadline(Checks checks, String source, String declaration) {
        for (int i = 0; i < HEADLINES.length; i += 2) {
            if (declaration.contains(" " + HEADLINES[i] + "(")) {
                String told = HEADLINES[i + 1] + " " + declaration + " {";
                checks.is("the source has " + told, source.contains(told), true);
            }
        }
    }

    private static void checkMethods(Checks checks) {
        Set<String> found = new TreeSet<>();
        Set<String> names = new TreeSet<>();
        for (Method method : EchoCave.class.getDeclaredMethods()) {
            if (Modifier.isPrivate(method.getModifiers())) {
                continue;
            }
            checks.is("modifiers of " + method.getName(), method.getModifiers(), Modifier.PUBLIC);
            found.add(told(method));
            names.add(method.getName());
        }
        checks.is("the methods of the face", found, new TreeSet<>(Arrays.asList(FACE)));
        for (Method method : EchoCave.class.getDeclaredMethods()) {
            boolean isPrivate = Modifier.isPrivate(method.getModifiers());
            checks.is("private " + method.getName(), isPrivate && names.contains(method.getName()), false);
        }
    }

    private static void checkOtherMembers(Checks checks) {
        Constructor<?>[] made = EchoCave.class.getDeclaredConstructors();
        checks.is("constructors", made.length, 1);
        checks.is("the constructor", made[0].toGenericString(), "public EchoCave()");
        for (Field field : EchoCave.class.getDeclaredFields()) {
            checks.is("private " + field, Modifier.isPrivate(field.getModifiers()), true);
        }
        for (Class<?> inside : EchoCave.class.getDeclaredClasses()) {
            checks.is("private static " + inside, inside.getModifiers(),
                    Modifier.PRIVATE | Modifier.STATIC | Modifier.FINAL);
            for (Field field : inside.getDeclaredFields()) {
                int modifiers = field.getModifiers();
                checks.is("final " + field, !Modifier.isStatic(modifiers) || Modifier.isFinal(modifiers), true);
            }
        }
    }

    private static String told(Method method) {
        StringBuilder told = new StringBuilder(method.getReturnType().getSimpleName());
        told.append(' ').append(method.getName()).append(names(method.getParameterTypes(), "(", ")"));
        if (method.getExceptionTypes().length > 0) {
            told.append(names(method.getExceptionTypes(), " throws ", ""));
        }
        return told.toString();
    }

    private static String names(Class<?>[] types, String ahead, String behind) {
        StringBuilder names = new StringBuilder(ahead);
        for (int i = 0; i < types.length; i++) {
            names.append(i == 0 ? "" : ",").append(types[i].getSimpleName());
        }
        return names.append(behind).toString();
    }
}
