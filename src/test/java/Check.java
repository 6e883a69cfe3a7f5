import java.nio.charset.StandardCharsets;
import java.util.Arrays;
import java.util.List;

/** What the project's tests share: comparing answers, texts into the input buffer, the output as a text. */
final class Check {
    interface Call {
        Object answer();
    }

    private final Document document = new Document();
    private String asked = "";
    private int doneBefore = 0;
    private int done = 0;
    private int wrong = 0;

    void due(String call, Object got, Object want) {
        done++;
        if (!want.equals(got)) {
            wrong++;
            System.out.println(asked + call + " answered " + got + ", due is " + want);
        }
    }

    /** The words of the document, in one of its sections, by which the answers that follow are due. */
    void says(String section, String... words) {
        endOfWords();
        asked = "[" + section + ": " + String.join(" .. ", words) + "] ";
        doneBefore = done;
        for (String quote : words) {
            if (!document.quote(section, quote)) {
                wrong++;
                System.out.println("not in the document, " + section + ": " + quote);
            }
        }
    }

    void says(int promise, String... words) {
        says("Promise " + promise, words);
    }

    private void endOfWords() {
        if (!asked.isEmpty() && done == doneBefore) {
            wrong++;
            System.out.println(asked + "is not tested");
        }
    }

    /** All of the document must have been said. */
    void saidAll() {
        endOfWords();
        asked = "";
        due("what of the document no test quotes", document.unquoted(), List.of());
    }

    String documentText(String section) {
        return document.text(section);
    }

    /** The answer, or behind "throws." the name of the exception. */
    static Object outcome(Call call) {
        try {
            return call.answer();
        } catch (RuntimeException thrown) {
            return "throws." + thrown.getClass().getSimpleName();
        }
    }

    void dueIndex(String call, Call made) {
        due(call, outcome(made), "throws.IndexOutOfBoundsException");
    }

    void dueArgument(String call, Call made) {
        due(call, outcome(made), "throws.IllegalArgumentException");
    }

    void dueState(String call, Call made) {
        due(call, outcome(made), "throws.IllegalStateException");
    }

    void dueElement(String call, Call made) {
        due(call, outcome(made), "throws.NoSuchElementException");
    }

    interface CallOn {
        Object answer(RayLayers rays);
    }

    interface CallWith {
        Object answer(int value);
    }

    /** The values at both ends of a range, and those inside of them, are taken. */
    void taken(String call, int least, int most, CallWith made) {
        for (int value : new int[] {least, Math.min(least + 1, most), Math.max(most - 1, least), most}) {
            due(call + " with " + value, outcome(() -> made.answer(value)).toString().startsWith("throws"), false);
        }
    }

    /** The values just beyond a range, and those as far beyond it as can be, are refused. */
    void refused(String call, int least, int most, String exception, CallWith made) {
        int[] beyond = {least - 1, most + 1, Integer.MIN_VALUE, Integer.MAX_VALUE, least - 1000000, most + 1000000};
        for (int value : beyond) {
            if (value < least || value > most) {
                due(call + " with " + value, outcome(() -> made.answer(value)), "throws." + exception);
            }
        }
    }

    void range(String call, int least, int most, String exception, CallWith made) {
        taken(call, least, most, made);
        refused(call, least, most, exception, made);
    }

    /** Ends the test with exit code 1 if an answer was wrong. */
    void close(String name) {
        endOfWords();
        System.out.println(name + ": " + done + " answers, " + wrong + " wrong");
        if (wrong > 0 || done == 0) {
            System.exit(1);
        }
    }

    static int word(byte[] bytes, int at) {
        int value = 0;
        for (int i = at; i < at + 4; i++) {
            value = value << 8 | (i < bytes.length ? bytes[i] & 255 : ' ');
        }
        return value;
    }

    static void put(RayLayers rays, String text) {
        byte[] bytes = text.getBytes(StandardCharsets.ISO_8859_1);
        int length = 0;
        for (int at = 0; at < bytes.length; at += 20) {
            length = rays.append(word(bytes, at), word(bytes, at + 4), word(bytes, at + 8), word(bytes, at + 12), word(bytes, at + 16));
        }
        rays.truncate(length - (bytes.length + 19) / 20 * 20 + bytes.length);
    }

    static int load(RayLayers rays, String text) {
        put(rays, text);
        return rays.load();
    }

    static RayLayers of(String text) {
        RayLayers rays = new RayLayers();
        if (load(rays, text) < 0) {
            throw new IllegalStateException("error " + rays.errorCode() + " at " + rays.errorPosition() + " in " + text);
        }
        return rays;
    }

    static String output(RayLayers rays, int length) {
        StringBuilder text = new StringBuilder();
        for (int i = 0; i < length; i++) {
            text.append((char) rays.outputByte(i));
        }
        return text.toString();
    }

    static String layers(RayLayers rays) {
        return output(rays, rays.writeLayers());
    }

    static String path(RayLayers rays, int shot) {
        return output(rays, rays.writePath(shot));
    }

    /** All of a shot's legs, by one of their numbers. */
    static String legs(RayLayers rays, int shot, int what) {
        int[] values = new int[rays.path(shot, 0)];
        for (int leg = 0; leg < values.length; leg++) {
            values[leg] = rays.leg(shot, leg, what);
        }
        return Arrays.toString(values);
    }

    static String times(String text, int times) {
        return text.repeat(times);
    }
}
