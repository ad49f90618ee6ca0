import java.io.IOException;
import java.lang.reflect.Constructor;
import java.lang.reflect.Field;
import java.lang.reflect.Method;
import java.lang.reflect.Modifier;
import java.nio.file.Files;
import java.nio.file.Path;
import java.util.ArrayList;
import java.util.Arrays;
import java.util.List;
import java.util.Set;
import java.util.TreeSet;
import java.util.regex.Matcher;
import java.util.regex.Pattern;
import java.util.stream.Collectors;

/** The class has the document's face and no other, and its file keeps to what LANGUAGE.md rules. */
public final class FaceTest {
    private static final Checks CHECKS = new Checks("FaceTest");

    private static final Pattern FACE_BLOCK = Pattern.compile(
            "## The public face\\s+```java\n(.*?)```", Pattern.DOTALL);
    private static final Pattern FACE_METHOD = Pattern.compile(
            "public (\\w+) (\\w+)\\((.*?)\\)(?: throws (.*))?;");

    public static void main(String[] args) throws IOException {
        Path project = Path.of(args.length > 0 ? args[0] : ".");
        List<String> face = documentedFace(Files.readString(project.resolve("../shared/DOC.md")));
        face(face);
        hiddenMembers(face);
        source(Files.readString(project.resolve("src/main/java/IslandParser.java")));
        CHECKS.end();
    }

    /** The methods of the document's face, each as it is told of a method of the class. */
    private static List<String> documentedFace(String document) {
        Matcher block = FACE_BLOCK.matcher(document);
        List<String> face = new ArrayList<>();
        if (block.find()) {
            for (Matcher row = FACE_METHOD.matcher(block.group(1)); row.find();) {
                String parameters = row.group(3).replaceAll("(\\w+) \\w+", "$1");
                String thrown = row.group(4) == null ? "" : " " + row.group(4).replace(",", "");
                face.add(row.group(1) + " " + row.group(2) + "(" + parameters + ")" + thrown);
            }
        }
        CHECKS.part("the document's face");
        CHECKS.same("the methods of the promises 2 to 29", face.size(), 28);
        return face;
    }

    private static String told(Method method) {
        String parameters = Arrays.stream(method.getParameterTypes()).map(Class::getSimpleName)
                .collect(Collectors.joining(", ", "(", ")"));
        String thrown = Arrays.stream(method.getExceptionTypes()).map(type -> " " + type.getSimpleName())
                .collect(Collectors.joining());
        return method.getReturnType().getSimpleName() + " " + method.getName() + parameters + thrown;
    }

    private static void face(List<String> face) {
        CHECKS.part("the face");
        Set<String> found = new TreeSet<>();
        for (Method method : IslandParser.class.getDeclaredMethods()) {
            if (Modifier.isPublic(method.getModifiers())) {
                found.add(told(method));
            }
        }
        CHECKS.same("the public methods", found, new TreeSet<>(face));
        CHECKS.same("the class", Modifier.toString(IslandParser.class.getModifiers()), "public final");
        Constructor<?>[] constructors = IslandParser.class.getDeclaredConstructors();
        CHECKS.same("the constructors", Arrays.toString(constructors), "[public IslandParser()]");
    }

    private static void hiddenMembers(List<String> face) {
        CHECKS.part("rule 1");
        Set<String> publicNames = new TreeSet<>();
        for (String row : face) {
            publicNames.add(row.substring(row.indexOf(' ') + 1, row.indexOf('(')));
        }
        for (Method method : IslandParser.class.getDeclaredMethods()) {
            if (!Modifier.isPublic(method.getModifiers())) {
                CHECKS.same(method + " is private", Modifier.isPrivate(method.getModifiers()), true);
                CHECKS.same(method + " has a public name", publicNames.contains(method.getName()), false);
            }
        }
        for (Field field : IslandParser.class.getDeclaredFields()) {
            CHECKS.same(field + " is private", Modifier.isPrivate(field.getModifiers()), true);
            staticIsFinal(field);
        }
        for (Class<?> inside : IslandParser.class.getDeclaredClasses()) {
            int modifiers = inside.getModifiers();
            CHECKS.same(inside + " is static and hidden", Modifier.isStatic(modifiers)
                    && !Modifier.isPublic(modifiers) && !Modifier.isProtected(modifiers), true);
            CHECKS.same(inside + " has some twenty fields", inside.getDeclaredFields().length <= 20, true);
            for (Field field : inside.getDeclaredFields()) {
                staticIsFinal(field);
            }
            for (Method method : inside.getDeclaredMethods()) {
                CHECKS.same(method + " has a public name", publicNames.contains(method.getName()), false);
                CHECKS.same(method + " has at most seven parameters", method.getParameterCount() <= 7, true);
            }
        }
    }

    private static void staticIsFinal(Field field) {
        int modifiers = field.getModifiers();
        CHECKS.same(field + " is final if it is static",
                Modifier.isStatic(modifiers) && !Modifier.isFinal(modifiers), false);
    }

    private static void source(String source) {
        CHECKS.part("the file");
        CHECKS.same("it has signs of 1 to 127 alone", source.chars().allMatch(c -> c >= 1 && c <= 127), true);
        String code = Pattern.compile("/\\*.*?\\*/", Pattern.DOTALL).matcher(source).replaceAll("");
        for (String word : List.of("package", "import", "try", "catch", "finally", "synchronized",
                "assert", "static \\{", "->", "::", "System\\.out", "while")) {
            String whole = Character.isLetter(word.charAt(0)) ? "\\b" + word : word;
            CHECKS.same("it holds " + word, Pattern.compile(whole).matcher(code).find(), false);
        }
        CHECKS.same("it uses of the library", found(code, "\\b([A-Z][a-z]\\w*\\.\\w+)"), Set.of("Math.min"));
        CHECKS.same("it makes", found(code, "(?<!throw )new (\\w+\\W)"),
                Set.of("Text(", "Kinds(", "Islands(", "Marks(", "BestReader(", "int[", "long["));
        CHECKS.same("it throws", found(code, "throw (.*?Exception\\(\")[^\"]*\"\\);"), Set.of(
                "new IllegalArgumentException(\"", "new IllegalStateException(\"",
                "new IndexOutOfBoundsException(\""));
        CHECKS.same("each throw has a written text", count(code, "\\bthrow "),
                count(code, "throw new \\w+\\(\"[^\"]*\"\\);"));
        CHECKS.same("it has some twelve classes at most", count(code, "\\bclass ") <= 12, true);
        lengths(code);
    }

    private static Set<String> found(String code, String pattern) {
        return Pattern.compile(pattern).matcher(code).results().map(result -> result.group(1))
                .collect(Collectors.toCollection(TreeSet::new));
    }

    private static long count(String code, String pattern) {
        return Pattern.compile(pattern).matcher(code).results().count();
    }

    /** A method ends with a brace that stands as far to the right as the method's first line. */
    private static void lengths(String code) {
        Matcher method = Pattern.compile("^( {4,8})(?! |[^\n]*\\bclass )[^=;\n]*\\([^;=]*?\\{\n.*?^\\1\\}$",
                Pattern.DOTALL | Pattern.MULTILINE).matcher(code);
        int methods = 0;
        for (; method.find(); methods++) {
            String[] lines = method.group().split("\n");
            CHECKS.same("some sixty lines at most: " + lines[0].strip(), lines.length <= 60, true);
        }
        CHECKS.same("the methods and constructors that were found", methods, declared());
    }

    private static int declared() {
        int many = IslandParser.class.getDeclaredMethods().length + 1;
        for (Class<?> inside : IslandParser.class.getDeclaredClasses()) {
            many += inside.getDeclaredMethods().length + inside.getDeclaredConstructors().length;
        }
        return many;
    }
}
