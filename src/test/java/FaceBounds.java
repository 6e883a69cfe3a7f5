import java.lang.reflect.Method;
import java.lang.reflect.Modifier;
import java.util.Arrays;
import java.util.Map;
import java.util.TreeMap;
import java.util.regex.Matcher;
import java.util.regex.Pattern;
import java.util.stream.Collectors;

/** "What it is", "The public face" and "The constants": every signature, every constant, the number of calls. */
final class FaceBounds {
    private static final String FACE = "The public face";
    private final Check t;
    /** The document's words for each public member of the class. */
    private final Map<String, Method> methods = new TreeMap<>();

    FaceBounds(Check t) {
        this.t = t;
    }

    void hold() {
        signatures();
        constants();
        calls();
    }

    private void signatures() {
        t.says(FACE, "import java.util.NoSuchElementException;", "public final class RayLayers {", "public RayLayers();");
        t.due("the class", Modifier.toString(RayLayers.class.getModifiers()), "public final");
        t.due("its package", RayLayers.class.getPackageName(), "");
        t.due("its constructors", RayLayers.class.getDeclaredConstructors().length, 1);
        t.due("its constructor", RayLayers.class.getDeclaredConstructors()[0].toString(), "public RayLayers()");
        for (Method method : RayLayers.class.getDeclaredMethods()) {
            if (Modifier.isPublic(method.getModifiers())) {
                methods.put(method.getName(), method);
            }
        }
        Matcher line = Pattern.compile("public (int|void|double|float) (\\w+)\\(([^)]*)\\)( throws ([^;]*))?;").matcher(t.documentText(FACE));
        int found = 0;
        while (line.find()) {
            t.says(FACE, line.group());
            found++;
            String types = Arrays.stream(line.group(3).split(", ")).map(parameter -> parameter.split(" ")[0]).collect(Collectors.joining(", "));
            String thrown = line.group(5) == null ? "" : line.group(5);
            t.due(line.group(2), methods.containsKey(line.group(2)) ? told(methods.get(line.group(2))) : "missing",
                    line.group(1) + "(" + types + ")" + thrown);
        }
        t.due("methods of the face", found, 51);
        t.due("public methods", methods.size(), 51);
    }

    private static String told(Method method) {
        return method.getReturnType() + "(" + names(method.getParameterTypes()) + ")" + names(method.getExceptionTypes());
    }

    private static String names(Class<?>[] types) {
        return Arrays.stream(types).map(Class::getSimpleName).collect(Collectors.joining(", "));
    }

    private void constants() {
        String section = "The constants";
        t.says(FACE, "public static final int NONE = -1;", "public static final int PARSE_ERROR = -4;");
        t.due("public fields", Arrays.stream(RayLayers.class.getDeclaredFields()).filter(field -> Modifier.isPublic(field.getModifiers()))
                .map(field -> Modifier.toString(field.getModifiers()) + " " + field.getType() + " " + field.getName()).sorted().collect(Collectors.joining(", ")),
                Arrays.stream("ABSORBED BOTTOM NONE NO_BEGIN PARSE_ERROR TOP TRAPPED".split(" "))
                .map(name -> "public static final int " + name).collect(Collectors.joining(", ")));
        t.says(section, "NONE = -1: No such value.");
        t.due("NONE", RayLayers.NONE, -1);
        t.due("no such value", new RayLayers().first(), RayLayers.NONE);
        t.says(section, "PARSE_ERROR = -4: The text has a parse error.");
        t.due("PARSE_ERROR", RayLayers.PARSE_ERROR, -4);
        t.due("a parse error", new RayLayers().load(), RayLayers.PARSE_ERROR);
        t.says(FACE, "public static final int TOP = 0, BOTTOM = 1, ABSORBED = 2, TRAPPED = 3, NO_BEGIN = 4;");
        t.due("ends", "" + RayLayers.TOP + RayLayers.BOTTOM + RayLayers.ABSORBED + RayLayers.TRAPPED + RayLayers.NO_BEGIN, "01234");
        t.says(section, "TOP = 0, BOTTOM = 1, ABSORBED = 2, TRAPPED = 3, NO_BEGIN = 4: Ends of paths.");
        t.due("top", new RayLayers().endOf(0, false, 0), RayLayers.TOP);
        t.due("bottom", new RayLayers().endOf(0, true, 0), RayLayers.BOTTOM);
        t.due("absorbed", Check.of("layer 1000 thick 1;bottom mirror 0;").endOf(0, true, 0), RayLayers.ABSORBED);
        t.due("trapped", new RayLayers().endOf(0, true, 1000), RayLayers.TRAPPED);
        t.due("it cannot begin", new RayLayers().endOf(0, true, 1500), RayLayers.NO_BEGIN);
    }

    private void calls() {
        t.says("What it is", "An object is used for at most 512 calls after it has been made; what later calls answer is free.");
        RayLayers rays = new RayLayers();
        int last = 1000;
        for (int call = 1; call <= 510; call++) {
            last = rays.setOutside(1000 + call);
        }
        t.due("call 510: setOutside()", last, 1509);
        t.due("call 511: undo()", rays.undo(), 5);
        t.due("call 512: property(1)", rays.property(1), 1509);
        RayLayers refused = new RayLayers();
        for (int call = 1; call <= 511; call++) {
            Check.outcome(() -> refused.layer(1, 4));
        }
        t.due("call 512, behind refused ones: layer(0, 0)", refused.layer(0, 0), 1500);
    }
}
