import java.nio.charset.StandardCharsets;
import java.util.Arrays;

/** What the project's tests share: comparing answers, texts into the input buffer, the output as a text. */
final class Check {
    interface Call {
        Object answer();
    }

    private int done = 0;
    private int wrong = 0;

    void due(String call, Object got, Object want) {
        done++;
        if (!want.equals(got)) {
            wrong++;
            System.out.println(call + " answered " + got + ", due is " + want);
        }
    }

    /** The answer, or behind "throws." the name of the exception. */
    static Object outcome(Call call) {
        try {
            return call.answer();
        } catch (RuntimeException thrown) {
            return "throws." + thrown.getClass().getSimpleName();
        }
    }

    void dueIndex(String call, Call made) {
        due(call, outcome(made), "throws.IndexOutOfBoundsException");
    }

    void dueArgument(String call, Call made) {
        due(call, outcome(made), "throws.IllegalArgumentException");
    }

    void dueState(String call, Call made) {
        due(call, outcome(made), "throws.IllegalStateException");
    }

    /** Ends the test with exit code 1 if an answer was wrong. */
    void close(String name) {
        System.out.println(name + ": " + done + " answers, " + wrong + " wrong");
        if (wrong > 0 || done == 0) {
            System.exit(1);
        }
    }

    static int word(byte[] bytes, int at) {
        int value = 0;
        for (int i = at; i < at + 4; i++) {
            value = value << 8 | (i < bytes.length ? bytes[i] & 255 : ' ');
        }
        return value;
    }

    static void put(RayLayers rays, String text) {
        byte[] bytes = text.getBytes(StandardCharsets.ISO_8859_1);
        int length = 0;
        for (int at = 0; at < bytes.length; at += 20) {
            length = rays.append(word(bytes, at), word(bytes, at + 4), word(bytes, at + 8), word(bytes, at + 12), word(bytes, at + 16));
        }
        rays.truncate(length - (bytes.length + 19) / 20 * 20 + bytes.length);
    }

    static int load(RayLayers rays, String text) {
        put(rays, text);
        return rays.load();
    }

    static RayLayers of(String text) {
        RayLayers rays = new RayLayers();
        if (load(rays, text) < 0) {
            throw new IllegalStateException("error " + rays.errorCode() + " at " + rays.errorPosition() + " in " + text);
        }
        return rays;
    }

    static String output(RayLayers rays, int length) {
        StringBuilder text = new StringBuilder();
        for (int i = 0; i < length; i++) {
            text.append((char) rays.outputByte(i));
        }
        return text.toString();
    }

    static String layers(RayLayers rays) {
        return output(rays, rays.writeLayers());
    }

    static String path(RayLayers rays, int shot) {
        return output(rays, rays.writePath(shot));
    }

    /** All of a shot's legs, by one of their numbers. */
    static String legs(RayLayers rays, int shot, int what) {
        int[] values = new int[rays.path(shot, 0)];
        for (int leg = 0; leg < values.length; leg++) {
            values[leg] = rays.leg(shot, leg, what);
        }
        return Arrays.toString(values);
    }

    static String times(String text, int times) {
        return text.repeat(times);
    }
}
