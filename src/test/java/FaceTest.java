import java.io.IOException;
import java.lang.reflect.Constructor;
import java.lang.reflect.Field;
import java.lang.reflect.Method;
import java.lang.reflect.Modifier;
import java.nio.file.Files;
import java.nio.file.Path;
import java.util.Arrays;
import java.util.HashSet;
import java.util.Set;
import java.util.TreeSet;
import java.util.regex.Pattern;

/** The public face of the document, and the rules of LANGUAGE.md that show in the classes or the source. */
public final class FaceTest {
    private static final String SOURCE = "src/main/java/BreadLaw.java";
    private static final String[] FACE = {"go 1", "baker 0", "buy 3", "grind 1", "dish 1", "price 1", "text 5",
        "step 3", "inForce 1", "due 2", "bake 4", "search 0", "turn 0", "rules 2", "record 2", "lot 2", "batch 2",
        "found 2", "about 2", "store 1", "mouths 2", "ration 1", "harvest 2", "foretell 1", "order 1", "told 1"};
    private static final String[] RULED_OUT = {"throw", "throws", "try", "catch", "finally", "synchronized", "assert",
        "package", "protected", "native", "volatile", "Object", "Thread", "Random", "nanoTime", "currentTimeMillis",
        "getenv", "hashCode", "identityHashCode", "[a-z]+Exact", "java\\.(io|nio|net|time|lang)"};
    private static final String IMPORT = "import java\\.util\\.(ArrayList|List|Arrays|Iterator);";
    private static final Set<String> LIBRARY = Set.of("String", "StringBuilder", "Integer", "ArrayList", "List");
    private static final int MOST_LINES = 60;

    public static void main(String[] args) throws IOException {
        Class<?> face = BreadLaw.class;
        Due.holds("public and final", Modifier.isPublic(face.getModifiers()) && Modifier.isFinal(face.getModifiers()));
        methodsAreTheFace(face);
        constructorsAreTheFace(face);
        fieldsAreTheFace(face);
        innerClassesAreStatic(face);
        typesAreAllowed(face);
        sourceKeepsTheRules();
        Due.end();
    }

    private static void methodsAreTheFace(Class<?> face) {
        Set<String> found = new TreeSet<>();
        Set<String> names = new HashSet<>();
        for (Method method : face.getDeclaredMethods()) {
            if (Modifier.isPrivate(method.getModifiers())) {
                continue;
            }
            Due.holds("public, not static: " + method, method.getModifiers() == Modifier.PUBLIC);
            Due.holds("answers an int: " + method, method.getReturnType() == int.class);
            for (Class<?> type : method.getParameterTypes()) {
                Due.holds("takes ints: " + method, type == int.class);
            }
            found.add(method.getName() + " " + method.getParameterCount());
            names.add(method.getName());
        }
        Due.holds("the document's methods: " + found, found.equals(new TreeSet<>(Arrays.asList(FACE))));
        for (Class<?> type : withInnerClasses(face)) {
            for (Method method : type.getDeclaredMethods()) {
                boolean isHidden = Modifier.isPrivate(method.getModifiers());
                Due.holds("a name of the face: " + method, !isHidden || !names.contains(method.getName()));
                Due.holds("seven parameters: " + method, method.getParameterCount() <= 7);
            }
            for (Constructor<?> made : type.getDeclaredConstructors()) {
                Due.holds("seven parameters: " + made, made.getParameterCount() <= 7);
            }
        }
    }

    private static void constructorsAreTheFace(Class<?> face) {
        Constructor<?>[] made = face.getDeclaredConstructors();
        Due.is("constructors", made.length, 1);
        Due.holds("public, without parameters",
            Modifier.isPublic(made[0].getModifiers()) && made[0].getParameterCount() == 0);
    }

    private static void fieldsAreTheFace(Class<?> face) {
        Set<String> constants = new TreeSet<>();
        for (Class<?> type : withInnerClasses(face)) {
            int own = 0;
            for (Field field : type.getDeclaredFields()) {
                boolean isStatic = Modifier.isStatic(field.getModifiers());
                Due.holds("static and not final: " + field, !isStatic || Modifier.isFinal(field.getModifiers()));
                own += isStatic ? 0 : 1;
                if (type == face && !Modifier.isPrivate(field.getModifiers())) {
                    constants.add(field.getName());
                    Due.holds("a public constant: " + field, isStatic && Modifier.isPublic(field.getModifiers()));
                }
            }
            Due.holds("some twenty fields: " + type, own <= 20);
        }
        Due.holds("the document's constants: " + constants,
            constants.equals(new TreeSet<>(Arrays.asList("UNKNOWN", "OUTSIDE", "STATE", "FULL", "NO", "NONE"))));
    }

    private static void innerClassesAreStatic(Class<?> face) {
        for (Class<?> inner : face.getNestMembers()) {
            Due.holds("no local or anonymous class: " + inner, inner == face || inner.isMemberClass());
        }
        for (Class<?> inner : face.getDeclaredClasses()) {
            Due.holds("static: " + inner, Modifier.isStatic(inner.getModifiers()));
            Due.holds("not public: " + inner, !Modifier.isPublic(inner.getModifiers()));
        }
        Due.holds("some twelve classes", withInnerClasses(face).length <= 12);
    }

    private static Class<?>[] withInnerClasses(Class<?> face) {
        return face.getNestMembers();
    }

    private static void typesAreAllowed(Class<?> face) {
        for (Class<?> type : withInnerClasses(face)) {
            for (Field field : type.getDeclaredFields()) {
                Due.holds("a type of rule 3: " + field, isAllowed(face, field.getType()));
            }
            for (Method method : type.getDeclaredMethods()) {
                boolean isVoid = method.getReturnType() == void.class;
                Due.holds("a type of rule 3: " + method, isVoid || isAllowed(face, method.getReturnType()));
                for (Class<?> parameter : method.getParameterTypes()) {
                    Due.holds("a type of rule 3: " + method, isAllowed(face, parameter));
                }
            }
        }
    }

    private static boolean isAllowed(Class<?> face, Class<?> type) {
        Class<?> held = type.isArray() ? type.getComponentType() : type;
        if (held.isArray()) {
            return held.getComponentType().isPrimitive();
        }
        if (held.isPrimitive() || held.getNestHost() == face) {
            return true;
        }
        return !type.isArray() && LIBRARY.contains(type.getSimpleName());
    }

    private static void sourceKeepsTheRules() throws IOException {
        String source = Files.readString(Path.of(SOURCE));
        String code = source.replaceAll("(?s)/\\*.*?\\*/", "").replaceAll("//[^\n]*", "");
        for (String word : RULED_OUT) {
            isNotIn(code, "\\b" + word + "\\b");
        }
        isNotIn(code, "::");
        isNotIn(code, "\\bstatic\\s*\\{");
        isNotIn(code, "System\\.(?!arraycopy)");
        isNotIn(code.replaceAll("(\\bcase\\b[^;{}]*?|\\bdefault\\s*)->", ""), "->");
        isNotIn(code.replaceAll(IMPORT, ""), "\\bimport\\b");
        Due.holds("characters 0 to 255", source.chars().allMatch(c -> c < 256));
        methodsAreShort(source.split("\n"));
    }

    private static void isNotIn(String code, String sought) {
        Due.holds("not in the source: " + sought, !Pattern.compile(sought).matcher(code).find());
    }

    private static void methodsAreShort(String[] lines) {
        for (int i = 0; i < lines.length; i++) {
            String indent = lines[i].substring(0, lines[i].length() - lines[i].stripLeading().length());
            int end = i;
            while (isMethodHead(lines[i]) && end < lines.length && !lines[end].equals(indent + "}")) {
                end++;
            }
            Due.holds("some sixty lines: " + lines[i], end - i < MOST_LINES);
        }
    }

    private static boolean isMethodHead(String line) {
        boolean isLoopOrChoice = line.matches(" +(if|for|while|switch|\\}).*");
        return !isLoopOrChoice && line.matches(" {4,8}\\w.*\\(.*\\) \\{");
    }
}
