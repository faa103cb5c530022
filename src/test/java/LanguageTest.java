import java.io.IOException;
import java.lang.reflect.Constructor;
import java.lang.reflect.Field;
import java.lang.reflect.Member;
import java.lang.reflect.Method;
import java.lang.reflect.Modifier;
import java.nio.file.Files;
import java.nio.file.Path;
import java.util.Arrays;
import java.util.List;
import java.util.Set;
import java.util.TreeSet;

/** What can be seen from outside of the rules of LANGUAGE.md: the face, and words that the source must not have. */
public final class LanguageTest {
    private static final Due DUE = new Due();
    private static final List<String> FACE = List.of(
        "town 0", "deliver 3", "order 4", "cancel 2", "meet 2", "hear 2", "rule 1", "eventOf 2", "thinks 2", "townOf 2",
        "goodOf 3", "lookedAt 3", "personOf 3", "unheard 2", "count 1", "would 3", "wouldRule 1", "kindest 1", "rounds 0",
        "undo 0", "type 1", "clearText 0", "fault 1", "play 0");
    private static final Set<String> CONSTANTS = Set.of("INVALID_ARGUMENT", "NOT_POSSIBLE", "LIMIT_REACHED", "NOT_FOUND");
    private static final List<String> FORBIDDEN = List.of(
        "throw", "try", "catch", "synchronized", "assert", "instanceof", "Exact", "->", "::", "@", "var", "package",
        "float", "double", "Object", "Random", "nanoTime", "currentTimeMillis", "Thread", "equals", "hashCode", "toString");

    public static void main(String[] args) throws IOException {
        face();
        for (Class<?> inner : KinderTowns.class.getDeclaredClasses()) {
            inside(inner);
        }
        source(Files.readAllLines(Path.of(args[0])));
        DUE.end();
    }

    private static void face() {
        DUE.is("modifiers", KinderTowns.class.getModifiers(), Modifier.PUBLIC | Modifier.FINAL);
        Set<String> methods = new TreeSet<>();
        for (Method method : KinderTowns.class.getDeclaredMethods()) {
            if (Modifier.isPrivate(method.getModifiers())) {
                DUE.holds(method.getName() + " is no public name", !isOfFace(method));
                continue;
            }
            methods.add(method.getName() + " " + method.getParameterCount());
            DUE.is(method + " is public", method.getModifiers(), Modifier.PUBLIC);
            DUE.holds(method + " answers an int", method.getReturnType() == int.class);
            DUE.holds(method + " takes ints", Arrays.stream(method.getParameterTypes()).allMatch(type -> type == int.class));
        }
        DUE.holds("methods are " + methods, methods.equals(new TreeSet<>(FACE)));
        Set<String> constants = new TreeSet<>();
        for (Field field : KinderTowns.class.getDeclaredFields()) {
            staticsAreFinal(field);
            if (!Modifier.isPrivate(field.getModifiers())) {
                constants.add(field.getName());
                DUE.is(field + " is a constant", field.getModifiers(), Modifier.PUBLIC | Modifier.STATIC | Modifier.FINAL);
            }
        }
        DUE.holds("constants are " + constants, constants.equals(new TreeSet<>(CONSTANTS)));
        Constructor<?>[] constructors = KinderTowns.class.getDeclaredConstructors();
        DUE.is("constructors", constructors.length, 1);
        DUE.is("constructor", constructors[0].getModifiers(), Modifier.PUBLIC);
        DUE.is("constructor's arguments", constructors[0].getParameterCount(), 0);
    }

    private static boolean isOfFace(Member member) {
        return FACE.stream().anyMatch(each -> each.startsWith(member.getName() + " "));
    }

    private static void staticsAreFinal(Field field) {
        DUE.holds(field + " is final if static",
            !Modifier.isStatic(field.getModifiers()) || Modifier.isFinal(field.getModifiers()));
    }

    private static void inside(Class<?> inner) {
        DUE.holds(inner + " is static", Modifier.isStatic(inner.getModifiers()));
        DUE.holds(inner + " is not public", (inner.getModifiers() & (Modifier.PUBLIC | Modifier.PROTECTED)) == 0);
        DUE.is(inner + " has classes inside", inner.getDeclaredClasses().length, 0);
        for (Constructor<?> constructor : inner.getDeclaredConstructors()) {
            DUE.is(constructor + " is handed nothing", constructor.getParameterCount(), 0);
        }
        for (Method method : inner.getDeclaredMethods()) {
            DUE.holds(method + " is no public name", !isOfFace(method));
            DUE.holds(method + " takes at most seven", method.getParameterCount() <= 7);
        }
        int fields = 0;
        for (Field field : inner.getDeclaredFields()) {
            staticsAreFinal(field);
            fields += Modifier.isStatic(field.getModifiers()) ? 0 : 1;
        }
        DUE.holds(inner + " has some twenty fields", fields <= 20);
    }

    private static void source(List<String> lines) {
        int start = 0;
        for (int number = 0; number < lines.size(); number++) {
            String line = lines.get(number);
            if (line.isEmpty()) {
                start = number;
            }
            DUE.holds("line " + (number + 1) + " stands in a short method", number - start <= 60);
            DUE.holds("line " + (number + 1) + " has signs 1 to 127", line.chars().allMatch(sign -> sign < 128));
            DUE.holds("line " + (number + 1) + " imports what is listed",
                !line.startsWith("import") || line.equals("import java.util.Arrays;"));
            String code = line.replaceAll("//.*|/\\*.*", "");
            for (String word : FORBIDDEN) {
                String pattern = Character.isLetter(word.charAt(0)) ? "\\b" + word + "\\b" : java.util.regex.Pattern.quote(word);
                DUE.holds("line " + (number + 1) + " is without " + word,
                    !java.util.regex.Pattern.compile(pattern).matcher(code).find());
            }
        }
    }
}
