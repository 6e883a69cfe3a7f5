import java.io.IOException;
import java.lang.reflect.Constructor;
import java.lang.reflect.Field;
import java.lang.reflect.Method;
import java.lang.reflect.Modifier;
import java.nio.charset.StandardCharsets;
import java.nio.file.Files;
import java.nio.file.Path;
import java.util.ArrayList;
import java.util.Arrays;
import java.util.List;
import java.util.Set;
import java.util.TreeSet;
import java.util.regex.Matcher;
import java.util.regex.Pattern;
import java.util.stream.Collectors;

/** The class keeps to the face of ../shared/DOC.md and to what of ../shared/LANGUAGE.md can be seen in its text. */
public final class LanguageTest {
    private static final Check T = new Check();
    private static final Path SOURCE = Path.of("src/main/java/RayLayers.java");
    private static final Path DOCUMENT = Path.of("../shared/DOC.md");
    private static final Set<String> LIBRARY = Set.of("Arrays.fill", "Math.max", "Math.min", "Math.abs", "System.arraycopy");

    private LanguageTest() {
    }

    public static void main(String[] args) throws IOException {
        String text = Files.readString(SOURCE, StandardCharsets.ISO_8859_1);
        face();
        hiddenMembers();
        words(text);
        methods(text);
        T.close("LanguageTest");
    }

    /** The lines of the document's face, as Java's reflection writes them. */
    private static void face() throws IOException {
        String document = Files.readString(DOCUMENT);
        Matcher line = Pattern.compile("^    public (int|void|double|float) (\\w+)\\((.*?)\\)( throws (.*))?;$", Pattern.MULTILINE).matcher(document);
        Set<String> want = new TreeSet<>();
        while (line.find()) {
            String types = Arrays.stream(line.group(3).split(", ")).map(parameter -> parameter.split(" ")[0]).collect(Collectors.joining(", "));
            want.add(line.group(1) + " " + line.group(2) + "(" + types + ") " + (line.group(5) == null ? "" : line.group(5)));
        }
        Set<String> got = new TreeSet<>();
        for (Method method : RayLayers.class.getDeclaredMethods()) {
            if (Modifier.isPublic(method.getModifiers())) {
                got.add(method.getReturnType() + " " + method.getName() + "(" + names(method.getParameterTypes()) + ") " + names(method.getExceptionTypes()));
            }
        }
        T.due("the document's methods", want.size(), 51);
        T.due("the methods of the face", got, want);
        T.due("the class", Modifier.toString(RayLayers.class.getModifiers()), "public final");
        Constructor<?>[] constructors = RayLayers.class.getDeclaredConstructors();
        T.due("constructors", constructors.length, 1);
        T.due("the constructor", constructors[0].toString(), "public RayLayers()");
    }

    private static String names(Class<?>[] types) {
        return Arrays.stream(types).map(Class::getSimpleName).collect(Collectors.joining(", "));
    }

    private static void hiddenMembers() {
        Set<String> publicNames = new TreeSet<>();
        Set<String> constants = new TreeSet<>();
        for (Method method : RayLayers.class.getDeclaredMethods()) {
            T.due("public or private: " + method, Modifier.isPublic(method.getModifiers()) || Modifier.isPrivate(method.getModifiers()), true);
            if (Modifier.isPublic(method.getModifiers())) {
                publicNames.add(method.getName());
            }
        }
        for (Method method : RayLayers.class.getDeclaredMethods()) {
            T.due("a name of the face: " + method, Modifier.isPrivate(method.getModifiers()) && publicNames.contains(method.getName()), false);
        }
        for (Field field : RayLayers.class.getDeclaredFields()) {
            if (Modifier.isPublic(field.getModifiers())) {
                constants.add(field.getName());
            } else {
                T.due("private: " + field, Modifier.isPrivate(field.getModifiers()), true);
            }
            T.due("final or not static: " + field, Modifier.isFinal(field.getModifiers()) || !Modifier.isStatic(field.getModifiers()), true);
        }
        T.due("constants", constants.toString(), "[ABSORBED, BOTTOM, NONE, NO_BEGIN, PARSE_ERROR, TOP, TRAPPED]");
        List<Class<?>> own = new ArrayList<>(Arrays.asList(RayLayers.class.getDeclaredClasses()));
        T.due("at most twelve classes", own.size() <= 11, true);
        for (Class<?> inside : own) {
            T.due("static and not public: " + inside, Modifier.isStatic(inside.getModifiers()) && !Modifier.isPublic(inside.getModifiers()), true);
            for (Method method : inside.getDeclaredMethods()) {
                T.due("a name of the face: " + method, publicNames.contains(method.getName()), false);
            }
            long fields = Arrays.stream(inside.getDeclaredFields()).filter(field -> !Modifier.isStatic(field.getModifiers())).count();
            T.due("at most twenty fields: " + inside, fields <= 20, true);
        }
    }

    private static void words(String text) {
        T.due("characters", text.matches("[\n -~]*"), true);
        for (String banned : List.of("->", "::", "package", "catch", "try", "finally", "synchronized", "assert", "instanceof", "native", "volatile", "record", "var")) {
            Pattern pattern = Pattern.compile(banned.matches("\\w+") ? "\\b" + banned + "\\b" : Pattern.quote(banned));
            T.due("banned: " + banned, pattern.matcher(text).find(), false);
        }
        Matcher imported = Pattern.compile("^import (.*);$", Pattern.MULTILINE).matcher(text);
        while (imported.find()) {
            T.due("import " + imported.group(1), Set.of("java.util.Arrays", "java.util.NoSuchElementException").contains(imported.group(1)), true);
        }
        Matcher library = Pattern.compile("\\b(Arrays|Math|System|Integer|Long|String|Character|List)\\.\\w+").matcher(text);
        while (library.find()) {
            T.due("library: " + library.group(), LIBRARY.contains(library.group()), true);
        }
        Matcher thrown = Pattern.compile("\\bthrow\\b (.*)").matcher(text);
        while (thrown.find()) {
            T.due(thrown.group(), thrown.group(1).matches(
                    "new (IllegalState|IllegalArgument|IndexOutOfBounds|NoSuchElement)Exception\\(\"[a-z0-9 ]+\"\\);"), true);
        }
    }

    private static void methods(String text) {
        String[] lines = text.split("\n");
        for (int start = 0; start < lines.length; start++) {
            Matcher head = Pattern.compile("^( {4}| {8})(?! )[\\w\\[\\]<> ]*\\b\\w+\\((.*)\\)[\\w ,]* \\{$").matcher(lines[start]);
            if (head.matches()) {
                int end = start;
                while (end < lines.length && !lines[end].equals(head.group(1) + "}")) {
                    end++;
                }
                T.due("at most sixty lines: " + lines[start].trim(), end - start <= 60, true);
                T.due("at most seven parameters: " + lines[start].trim(), head.group(2).split(",").length <= 7, true);
            }
        }
    }
}
