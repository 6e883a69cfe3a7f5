import java.lang.reflect.Method;
import java.util.ArrayList;
import java.util.Arrays;
import java.util.List;
import java.util.Random;

/** Long runs of calls, of a fixed seed: each answer of the program must be that of the model. */
public final class RandomRunsTest {
    private static final int RUNS = 150;
    private static final int CALLS = 400;
    private static final String WORDS = "layer thick loss outside bottom open mirror shot down up 0 1 10 999 1000 1500 4000 4001 ; ; x %";

    private final Random random;
    private final Twin twin;
    private final Model model;
    /** Runs of many losses, thick or thin layers, few indexes: what is rare must come too. */
    private final int mostLoss;
    private final int mostThickness;
    private final int indexStep;

    private RandomRunsTest(int run) {
        random = new Random(7000 + run);
        twin = new Twin("run " + run);
        model = twin.model;
        mostLoss = new int[] {0, 1, 5, 99}[random.nextInt(4)];
        mostThickness = new int[] {1, 20, 300, 999}[random.nextInt(4)];
        indexStep = new int[] {1, 100, 500, 1000}[random.nextInt(4)];
    }

    public static void main(String[] args) throws Exception {
        int calls = 0;
        for (int run = 0; run < RUNS; run++) {
            calls += new RandomRunsTest(run).go();
        }
        System.out.println("RandomRunsTest: " + calls + " answers as the model's");
    }

    private int go() throws Exception {
        twin.load(text());
        while (twin.calls() < CALLS) {
            if (random.nextInt(40) == 0) {
                twin.load(text());
            } else {
                Method method = Twin.METHODS[random.nextInt(Twin.METHODS.length)];
                if (!isSlow(method.getName()) || random.nextInt(4) == 0) {
                    twin.call(method, arguments(method));
                }
            }
        }
        return twin.calls();
    }

    private static boolean isSlow(String name) {
        return Arrays.asList("slants", "leastSlant", "slantFor", "fastest", "brightest", "farthest", "guide").contains(name);
    }

    private String text() {
        List<String> tokens = new ArrayList<>();
        int layers = random.nextInt(8) == 0 ? 11 : 1 + random.nextInt(5);
        for (int layer = 0; layer < layers; layer++) {
            tokens.addAll(Arrays.asList("layer", "" + index(), "thick", "" + thickness()));
            if (mostLoss > 0 && random.nextBoolean()) {
                tokens.addAll(Arrays.asList("loss", "" + random.nextInt(mostLoss + 1)));
            }
            tokens.add(";");
        }
        if (random.nextBoolean()) {
            tokens.addAll(Arrays.asList("outside", "" + index(), ";"));
        }
        if (random.nextBoolean()) {
            tokens.addAll(Arrays.asList("bottom", "open", "" + index(), ";"));
        } else if (random.nextBoolean()) {
            tokens.addAll(Arrays.asList("bottom", "mirror", "" + percents(), ";"));
        }
        int shots = random.nextInt(8) == 0 ? 21 : random.nextInt(7);
        for (int shot = 0; shot < shots; shot++) {
            tokens.addAll(Arrays.asList("shot", "" + random.nextInt(layers + (random.nextInt(30) == 0 ? 3 : 0)),
                    random.nextBoolean() ? "down" : "up", "" + random.nextInt(random.nextInt(9) == 0 ? 4100 : 1400), ";"));
        }
        if (random.nextInt(4) == 0) {
            String[] words = WORDS.split(" ");
            String word = words[random.nextInt(words.length)];
            int at = random.nextInt(tokens.size());
            if (random.nextBoolean()) {
                tokens.set(at, word);
            } else {
                tokens.add(at, word);
            }
        }
        StringBuilder text = new StringBuilder();
        for (String token : tokens) {
            boolean glue = text.length() > 0 && isWord(token) && isWord(text.substring(text.length() - 1));
            text.append(glue || random.nextInt(20) == 0 ? random.nextInt(9) == 0 ? "\n" : " " : "").append(token);
        }
        return random.nextInt(12) == 0 ? text.substring(0, random.nextInt(text.length() + 1)) : text.toString();
    }

    private static boolean isWord(String token) {
        return token.matches("[a-z0-9]+");
    }

    private int index() {
        return 1000 + random.nextInt(3000 / indexStep + 1) * indexStep;
    }

    private int thickness() {
        return 1 + random.nextInt(mostThickness);
    }

    private int percents() {
        return random.nextInt(3) == 0 ? 100 * random.nextInt(2) : random.nextInt(101);
    }

    private Object[] arguments(Method method) {
        Class<?>[] types = method.getParameterTypes();
        Object[] arguments = new Object[types.length];
        for (int i = 0; i < types.length; i++) {
            arguments[i] = types[i] == boolean.class ? (Object) random.nextBoolean() : (Object) number(method.getName(), i);
        }
        if (method.getName().equals("setLayer") && random.nextInt(5) > 0) {
            int what = random.nextInt(3);
            arguments[1] = what;
            arguments[2] = what == 0 ? index() : what == 1 ? thickness() : random.nextInt(mostLoss + 1);
        }
        return arguments;
    }

    private int number(String name, int at) {
        if (random.nextInt(25) == 0) {
            return new int[] {-1, 0, 1, 4, 10, 20, 100, 999, 1000, 3999, 4000, 4001, Integer.MAX_VALUE, Integer.MIN_VALUE}[random.nextInt(14)];
        }
        int layer = random.nextInt(model.property(0) + (random.nextInt(20) == 0 ? 1 : 0));
        int shot = random.nextInt(Math.max(1, model.property(4)));
        int slant = random.nextInt(random.nextInt(3) == 0 ? 4000 : 1500);
        switch (name) {
            case "append":
                return 0x20202020;
            case "truncate":
                return random.nextInt(30);
            case "property":
                return random.nextInt(7);
            case "layer":
                return at == 0 ? layer : random.nextInt(5);
            case "shot":
                return at == 0 ? shot : random.nextInt(4);
            case "path":
                return at == 0 ? shot : random.nextInt(11);
            case "leg":
                return at == 0 ? shot : at == 1 ? leg(shot) : random.nextInt(8);
            case "legAt":
            case "shiftAt":
            case "depthAt":
                return at == 0 ? shot : time(shot);
            case "critical":
            case "legsIn":
            case "removeLayer":
            case "swapLayers":
                return layer;
            case "endOf":
            case "shiftOf":
            case "shoot":
                return at == 0 ? layer : slant;
            case "slants":
            case "leastSlant":
            case "fastest":
            case "brightest":
            case "farthest":
                return at == 0 ? layer : random.nextInt(4);
            case "slantFor":
                return at == 0 ? layer : random.nextInt(random.nextBoolean() ? 300 : 4000);
            case "count":
                return random.nextInt(5);
            case "alike":
            case "together":
            case "share":
            case "bestWithout":
            case "dropShot":
            case "writePath":
                return shot;
            case "endIf":
                return at == 0 ? shot : at == 1 ? layer : index();
            case "turn":
                return at == 0 ? shot : slant;
            case "addLayer":
                return at == 0 ? random.nextInt(model.property(0) + 1) : at == 1 ? index() : at == 2 ? thickness() : random.nextInt(mostLoss + 1);
            case "setOutside":
            case "setOpen":
                return index();
            case "setMirror":
                return percents();
            case "keep":
            case "restore":
                return random.nextInt(2);
            default:
                return random.nextInt(60);
        }
    }

    private int leg(int shot) {
        int legs = shot < model.property(4) ? model.path(shot, 0) : 0;
        return random.nextInt(legs + 1);
    }

    private int time(int shot) {
        if (shot >= model.property(4) || random.nextInt(3) > 0) {
            return random.nextInt(shot < model.property(4) ? model.path(shot, 4) + 2 : 3);
        }
        int time = 0;
        int legs = random.nextInt(model.path(shot, 0) + 1);
        for (int leg = 0; leg < legs; leg++) {
            time += model.leg(shot, leg, 4);
        }
        return Math.max(0, time - random.nextInt(2));
    }
}
