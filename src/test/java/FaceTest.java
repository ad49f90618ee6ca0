import java.io.IOException;
import java.lang.reflect.Constructor;
import java.lang.reflect.Field;
import java.lang.reflect.Method;
import java.lang.reflect.Modifier;
import java.nio.file.Files;
import java.nio.file.Path;
import java.util.Arrays;
import java.util.List;
import java.util.Set;
import java.util.TreeSet;
import java.util.regex.Pattern;
import java.util.stream.Collectors;

/** The class has the document's face and no other, and its file keeps to what LANGUAGE.md rules. */
public final class FaceTest {
    private static final Checks CHECKS = new Checks("FaceTest");

    private static final List<String> FACE = List.of(
            "int feed(long) IllegalArgumentException IllegalStateException",
            "int cut(int) IllegalArgumentException",
            "int set(int, int) IndexOutOfBoundsException IllegalArgumentException",
            "int size()",
            "int byteAt(int) IndexOutOfBoundsException",
            "int setEscape(int) IllegalArgumentException",
            "boolean setWord(int, boolean, int, int) IndexOutOfBoundsException IllegalArgumentException",
            "int setKind(int, boolean, boolean, int) IndexOutOfBoundsException IllegalArgumentException",
            "boolean setLenient(boolean)",
            "int quick()",
            "int best()",
            "boolean hasReading()",
            "int markCount()",
            "int mark(int) IndexOutOfBoundsException",
            "int islandCount() IllegalStateException",
            "int kind(int) IllegalStateException IndexOutOfBoundsException",
            "int start(int) IllegalStateException IndexOutOfBoundsException",
            "int end(int) IllegalStateException IndexOutOfBoundsException",
            "int state(int) IllegalStateException IndexOutOfBoundsException",
            "int parent(int) IllegalStateException IndexOutOfBoundsException",
            "int depth(int) IllegalStateException IndexOutOfBoundsException",
            "int own(int) IllegalStateException IndexOutOfBoundsException",
            "int at(int) IllegalStateException IndexOutOfBoundsException",
            "int count(int, int) IllegalStateException IndexOutOfBoundsException",
            "int water() IllegalStateException",
            "int left() IllegalStateException",
            "double share() IllegalStateException",
            "long digest()");

    public static void main(String[] args) throws IOException {
        face();
        hiddenMembers();
        source(Files.readString(Path.of(args.length > 0 ? args[0] : ".",
                "src/main/java/IslandParser.java")));
        CHECKS.end();
    }

    private static String told(Method method) {
        String parameters = Arrays.stream(method.getParameterTypes()).map(Class::getSimpleName)
                .collect(Collectors.joining(", ", "(", ")"));
        String thrown = Arrays.stream(method.getExceptionTypes()).map(type -> " " + type.getSimpleName())
                .collect(Collectors.joining());
        return method.getReturnType().getSimpleName() + " " + method.getName() + parameters + thrown;
    }

    private static void face() {
        CHECKS.part("the face");
        Set<String> found = new TreeSet<>();
        for (Method method : IslandParser.class.getDeclaredMethods()) {
            if (Modifier.isPublic(method.getModifiers())) {
                found.add(told(method));
            }
        }
        CHECKS.same("the public methods", found, new TreeSet<>(FACE));
        CHECKS.same("the class", Modifier.toString(IslandParser.class.getModifiers()), "public final");
        Constructor<?>[] constructors = IslandParser.class.getDeclaredConstructors();
        CHECKS.same("the constructors", Arrays.toString(constructors), "[public IslandParser()]");
    }

    private static void hiddenMembers() {
        CHECKS.part("rule 1");
        Set<String> publicNames = new TreeSet<>();
        for (String row : FACE) {
            publicNames.add(row.substring(row.indexOf(' ') + 1, row.indexOf('(')));
        }
        for (Method method : IslandParser.class.getDeclaredMethods()) {
            if (!Modifier.isPublic(method.getModifiers())) {
                CHECKS.same(method + " is private", Modifier.isPrivate(method.getModifiers()), true);
                CHECKS.same(method + " has a public name", publicNames.contains(method.getName()), false);
            }
        }
        for (Field field : IslandParser.class.getDeclaredFields()) {
            CHECKS.same(field + " is private", Modifier.isPrivate(field.getModifiers()), true);
            staticIsFinal(field);
        }
        for (Class<?> inside : IslandParser.class.getDeclaredClasses()) {
            int modifiers = inside.getModifiers();
            CHECKS.same(inside + " is static and hidden", Modifier.isStatic(modifiers)
                    && !Modifier.isPublic(modifiers) && !Modifier.isProtected(modifiers), true);
            CHECKS.same(inside + " has some twenty fields", inside.getDeclaredFields().length <= 20, true);
            for (Field field : inside.getDeclaredFields()) {
                staticIsFinal(field);
            }
            for (Method method : inside.getDeclaredMethods()) {
                CHECKS.same(method + " has a public name", publicNames.contains(method.getName()), false);
                CHECKS.same(method + " has at most seven parameters", method.getParameterCount() <= 7, true);
            }
        }
    }

    private static void staticIsFinal(Field field) {
        int modifiers = field.getModifiers();
        CHECKS.same(field + " is final if it is static",
                Modifier.isStatic(modifiers) && !Modifier.isFinal(modifiers), false);
    }

    private static void source(String source) {
        CHECKS.part("the file");
        CHECKS.same("it has signs of 1 to 127 alone", source.chars().allMatch(c -> c >= 1 && c <= 127), true);
        String code = Pattern.compile("/\\*.*?\\*/", Pattern.DOTALL).matcher(source).replaceAll("");
        for (String word : List.of("package", "import", "try", "catch", "finally", "synchronized",
                "assert", "static \\{", "->", "::", "System\\.out", "while")) {
            String whole = Character.isLetter(word.charAt(0)) ? "\\b" + word : word;
            CHECKS.same("it holds " + word, Pattern.compile(whole).matcher(code).find(), false);
        }
    }
}
