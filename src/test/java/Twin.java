import java.lang.reflect.InvocationTargetException;
import java.lang.reflect.Method;
import java.lang.reflect.Modifier;
import java.nio.charset.StandardCharsets;
import java.util.ArrayList;
import java.util.Arrays;
import java.util.Comparator;
import java.util.List;

/** An object of the program and one of the model, which get the same calls; the first other answer ends the test. */
final class Twin {
    /** The methods of the face, by their names. */
    static final Method[] METHODS = Arrays.stream(RayLayers.class.getDeclaredMethods())
            .filter(method -> Modifier.isPublic(method.getModifiers()))
            .sorted(Comparator.comparing(Method::getName)).toArray(Method[]::new);

    final RayLayers rays = new RayLayers();
    final Model model = new Model();
    private final String name;
    private final List<String> told = new ArrayList<>();

    Twin(String name) {
        this.name = name;
    }

    int calls() {
        return told.size();
    }

    Object call(String called, Object... arguments) throws ReflectiveOperationException {
        for (Method method : METHODS) {
            if (method.getName().equals(called)) {
                return call(method, arguments);
            }
        }
        throw new IllegalArgumentException(called);
    }

    Object call(Method method, Object[] arguments) throws ReflectiveOperationException {
        Method modelled = Model.class.getMethod(method.getName(), method.getParameterTypes());
        modelled.setAccessible(true);
        Object want = outcome(modelled, model, arguments);
        Object got = outcome(method, rays, arguments);
        told.add(method.getName() + Arrays.toString(arguments) + " -> " + got);
        if (want == null ? got != null : !want.equals(got)) {
            told.forEach(System.out::println);
            System.out.println(name + ", last call: due is " + want);
            System.exit(1);
        }
        return got;
    }

    private static Object outcome(Method method, Object target, Object[] arguments) throws IllegalAccessException {
        try {
            return method.invoke(target, arguments);
        } catch (InvocationTargetException thrown) {
            return "throws." + thrown.getCause().getClass().getSimpleName();
        }
    }

    /** Puts a text's first 400 bytes in place of what is in the input buffer. */
    void put(String text) throws ReflectiveOperationException {
        byte[] bytes = text.getBytes(StandardCharsets.ISO_8859_1);
        call("truncate", 0);
        int length = Math.min(bytes.length, 400);
        for (int at = 0; at < length; at += 20) {
            call("append", Check.word(bytes, at), Check.word(bytes, at + 4), Check.word(bytes, at + 8), Check.word(bytes, at + 12), Check.word(bytes, at + 16));
        }
        call("truncate", length);
    }

    void load(String text) throws ReflectiveOperationException {
        put(text);
        call("load");
        call("errorCode");
        call("errorPosition");
    }
}
