/** Promises 50 to 52 and the constants: what is written to the output buffer. */
public final class WriteTest {
    private static final Check T = new Check();

    private WriteTest() {
    }

    public static void main(String[] args) {
        constants();
        promise50();
        promise51();
        promise52();
        T.close("WriteTest");
    }

    private static void constants() {
        T.due("NONE", RayLayers.NONE, -1);
        T.due("PARSE_ERROR", RayLayers.PARSE_ERROR, -4);
        T.due("TOP", RayLayers.TOP, 0);
        T.due("BOTTOM", RayLayers.BOTTOM, 1);
        T.due("ABSORBED", RayLayers.ABSORBED, 2);
        T.due("TRAPPED", RayLayers.TRAPPED, 3);
        T.due("NO_BEGIN", RayLayers.NO_BEGIN, 4);
    }

    private static void promise50() {
        RayLayers rays = new RayLayers();
        T.due("50 its length", rays.writeLayers(), 12);
        T.due("50 one layer", Check.output(rays, 12), "1500x10|1000");
        Check.load(rays, "layer 1000 thick 1;layer 4000 thick 999;layer 1205 thick 100;bottom open 4000;");
        T.due("50 layers", Check.layers(rays), "1000x1/4000x999/1205x100|4000");
        rays.setMirror(0);
        T.due("50 a mirror of none", Check.layers(rays), "1000x1/4000x999/1205x100#0");
        rays.setMirror(100);
        T.due("50 a mirror of all", Check.layers(rays), "1000x1/4000x999/1205x100#100");
        rays.setMirror(50);
        T.due("50 a mirror", Check.layers(rays), "1000x1/4000x999/1205x100#50");
        T.due("50 ten layers", Check.of(Check.times("layer 1000 thick 999;", 10)).writeLayers(), 94);
    }

    private static void promise51() {
        RayLayers rays = Check.of("layer 2000 thick 10;layer 1500 thick 999 loss 99;"
                + "shot 0 down 0;shot 1 up 5;shot 0 down 1999;shot 1 up 1499;shot 0 up 1999;");
        T.due("51 bottom", Check.path(rays, 0), "v0v1b");
        T.due("51 top", Check.path(rays, 1), "^1^0t");
        T.due("51 trapped", Check.path(rays, 2), Check.times("v0^0", 30) + "r");
        T.due("51 its length", rays.writePath(4), 121);
        T.due("51 trapped upwards", Check.path(rays, 4), Check.times("^0v0", 30) + "r");
        T.due("51 absorbed", Check.path(rays, 3), "^1a");
        rays.setLayer(1, 0, 1000);
        T.due("51 it cannot begin", Check.path(rays, 3), "n");
        T.due("51 it replaces the output", Check.outcome(() -> rays.outputByte(1)), "throws.NoSuchElementException");
        RayLayers deep = Check.of(Check.times("layer 1000 thick 9;", 10) + "shot 9 down 1;");
        T.due("51 the last layer", Check.path(deep, 0), "v9b");
        T.dueIndex("51 shot 5", () -> rays.writePath(5));
        T.dueIndex("51 shot -1", () -> rays.writePath(-1));
        T.due("51 a throw leaves the output", rays.outputByte(0), (int) 'n');
    }

    private static void promise52() {
        RayLayers rays = new RayLayers();
        T.due("52 empty", Check.outcome(() -> rays.outputByte(0)), "throws.NoSuchElementException");
        rays.writeLayers();
        T.due("52 the first byte", rays.outputByte(0), (int) '1');
        T.due("52 the last byte", rays.outputByte(11), (int) '0');
        for (int index : new int[] {-1, 12, Integer.MAX_VALUE, Integer.MIN_VALUE}) {
            T.due("52 index " + index, Check.outcome(() -> rays.outputByte(index)), "throws.NoSuchElementException");
        }
    }
}
