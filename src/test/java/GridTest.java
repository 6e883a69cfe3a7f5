import java.lang.reflect.Method;
import java.util.ArrayList;
import java.util.List;
import java.util.TreeSet;

/**
 * All promises: each call with all combinations of values at, just below and just above the bounds of its parameters,
 * on a new object, on one with a bit of everything and on a full one. Each answer and what is there behind it must be the model's.
 */
public final class GridTest {
    private static final int LOW = Integer.MIN_VALUE;
    private static final int HIGH = Integer.MAX_VALUE;
    private static final String[] SETUPS = {"new", "some", "full"};

    private GridTest() {
    }

    public static void main(String[] args) throws ReflectiveOperationException {
        int calls = 0;
        for (String setup : SETUPS) {
            for (Method method : Twin.METHODS) {
                calls += grid(setup, method);
            }
        }
        System.out.println("GridTest: " + calls + " calls as the model's");
    }

    private static Twin made(String setup) throws ReflectiveOperationException {
        Twin twin = new Twin("GridTest, " + setup);
        if (setup.equals("some")) {
            twin.load("layer 1500 thick 10 loss 1;layer 1300 thick 20;layer 2000 thick 30 loss 3;"
                    + "outside 1100;bottom mirror 60;shot 0 down 100;shot 2 up 1900;shot 1 up 5;");
            twin.call("keep", 1);
            twin.call("setOpen", 1200);
            twin.call("turn", 0, 1500);
            twin.load("layer 1500 thick 5;;");
            twin.call("writePath", 2);
            twin.put("layer 1111 thick 7;");
        }
        if (setup.equals("full")) {
            twin.load("layer1500thick1;".repeat(10) + "shot9up7;".repeat(20));
            for (int step = 0; step < 6; step++) {
                twin.call("setMirror", 95 + step);
            }
            twin.call("keep", 0);
            twin.call("keep", 1);
            twin.call("writeLayers");
            twin.put(" ".repeat(380) + "layer 1500 thick 10;");
        }
        return twin;
    }

    private static int grid(String setup, Method method) throws ReflectiveOperationException {
        Class<?>[] types = method.getParameterTypes();
        Twin first = made(setup);
        List<Object[]> rows = new ArrayList<>();
        rows.add(new Object[types.length]);
        for (int at = 0; at < types.length; at++) {
            List<Object[]> longer = new ArrayList<>();
            for (Object[] row : rows) {
                for (Object value : types[at] == boolean.class ? List.of(true, false) : values(method.getName(), at, first)) {
                    Object[] with = row.clone();
                    with[at] = value;
                    longer.add(with);
                }
            }
            rows = longer;
        }
        for (Object[] row : rows) {
            Twin twin = made(setup);
            twin.call(method, row);
            compareAll(twin);
        }
        return rows.size();
    }

    /** What is there behind the call: the buffers, the error, the layers and shots, one step back too. */
    private static void compareAll(Twin twin) throws ReflectiveOperationException {
        twin.call("outputByte", 0);
        twin.call("outputByte", 11);
        twin.call("errorCode");
        twin.call("errorPosition");
        compareState(twin);
        twin.call("undoCount");
        twin.call("undo");
        compareState(twin);
        twin.call("truncate", 20);
        twin.call("load");
        compareState(twin);
        twin.call("restore", 0);
        twin.call("restore", 1);
        compareState(twin);
    }

    private static void compareState(Twin twin) throws ReflectiveOperationException {
        for (int what = 0; what < 6; what++) {
            twin.call("property", what);
        }
        for (int layer = 0; layer < twin.model.property(0); layer++) {
            for (int what = 0; what < 3; what++) {
                twin.call("layer", layer, what);
            }
        }
        for (int shot = 0; shot < twin.model.property(4); shot++) {
            for (int what = 0; what < 3; what++) {
                twin.call("shot", shot, what);
            }
        }
    }

    private static List<Object> around(int... bounds) {
        TreeSet<Object> values = new TreeSet<>();
        for (int bound : bounds) {
            values.add(bound);
        }
        return new ArrayList<>(values);
    }

    /** A number of something: below all, the first, the last, one behind it, beyond all. */
    private static List<Object> numbers(int count) {
        return around(LOW, -1, 0, count - 1, count, count + 1, HIGH);
    }

    private static List<Object> values(String name, int at, Twin twin) {
        int layers = twin.model.property(0);
        int shots = twin.model.property(4);
        switch (name) {
            case "append":
                return around(-1, 0x20202020);
            case "truncate":
                return around(LOW, -1, 0, 1, 18, 19, 20, 399, 400, 401, HIGH);
            case "property":
                return around(LOW, -1, 0, 5, 6, HIGH);
            case "layer":
                return at == 0 ? numbers(layers) : around(-1, 0, 3, 4);
            case "shot":
                return at == 0 ? numbers(shots) : around(-1, 0, 2, 3);
            case "path":
                return at == 0 ? numbers(shots) : around(-1, 0, 9, 10);
            case "leg":
                return at == 0 ? numbers(shots) : at == 1 ? around(LOW, -1, 0, 1, 59, 60, HIGH) : around(-1, 0, 6, 7);
            case "legAt":
            case "shiftAt":
            case "depthAt":
                return at == 0 ? numbers(shots) : around(LOW, -1, 0, 1, 9, 10, 89, 90, 91, HIGH);
            case "critical":
            case "legsIn":
            case "removeLayer":
            case "swapLayers":
                return numbers(layers);
            case "addLayer":
                return at == 0 ? numbers(layers + 1) : at == 1 ? around(999, 1000, 4000, 4001) : at == 2 ? around(0, 1, 999, 1000) : around(-1, 0, 99, 100);
            case "setLayer":
                return at == 0 ? numbers(layers) : at == 1 ? around(-1, 0, 1, 2, 3) : around(-1, 0, 1, 99, 100, 999, 1000, 4000, 4001);
            default:
                return moreValues(name, at, layers, shots);
        }
    }

    private static List<Object> moreValues(String name, int at, int layers, int shots) {
        switch (name) {
            case "endOf":
            case "shiftOf":
            case "shoot":
                return at == 0 ? numbers(layers) : around(LOW, -1, 0, 999, 1000, 1299, 1300, 1499, 1500, 1501, 3999, 4000, HIGH);
            case "slants":
            case "leastSlant":
            case "fastest":
            case "brightest":
            case "farthest":
                return at == 0 ? around(-1, 0, layers - 1, layers) : around(-1, 0, 1, 2, 3, 4);
            case "slantFor":
                return at == 0 ? around(-1, 0, layers - 1, layers) : around(LOW, -1, 0, HIGH);
            case "endIf":
                return at == 0 ? numbers(shots) : at == 1 ? numbers(layers) : around(999, 1000, 1500, 4000, 4001);
            case "setOutside":
            case "setOpen":
                return around(LOW, -1, 0, 999, 1000, 1001, 3999, 4000, 4001, HIGH);
            case "setMirror":
                return around(LOW, -1, 0, 1, 99, 100, 101, HIGH);
            case "turn":
                return at == 0 ? numbers(shots) : around(LOW, -1, 0, 1299, 1300, 1499, 1500, 3999, 4000, HIGH);
            case "keep":
            case "restore":
                return around(LOW, -1, 0, 1, 2, HIGH);
            case "count":
                return around(LOW, -1, 0, 1, 2, 3, 4, 5, HIGH);
            case "outputByte":
                return around(LOW, -1, 0, 3, 4, 74, 75, 399, 400, HIGH);
            default:
                return numbers(shots);
        }
    }
}
