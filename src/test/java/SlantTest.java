/** Promises 16 to 24: what a shot would do with another slant, or with which slant it would do something. */
public final class SlantTest {
    private static final Check T = new Check();

    private SlantTest() {
    }

    public static void main(String[] args) {
        promises16And17();
        promises18And19();
        promise20();
        promises21To23();
        promise24();
        wrongInputs();
        T.close("SlantTest");
    }

    private static void promises16And17() {
        RayLayers rays = Check.of("layer 1250 thick 100;layer 2000 thick 10;outside 1200;");
        T.due("16 top", rays.endOf(0, false, 750), 0);
        T.due("16 bottom", rays.endOf(0, true, 750), 1);
        T.due("16 reflected below", rays.endOf(0, true, 1000), 0);
        T.due("16 straight", rays.endOf(0, false, 0), 0);
        T.due("16 trapped", rays.endOf(0, true, 1249), 3);
        T.due("16 just reflected above", rays.endOf(0, false, 1200), 3);
        T.due("16 it could not begin", rays.endOf(0, true, 1250), 4);
        T.due("16 absorbed", Check.of("layer 4000 thick 999 loss 99;").endOf(0, true, 3999), 2);
        T.due("17 upwards", rays.shiftOf(0, false, 750), 75);
        // 10 * 750 / 1854 = 4 in the layer below.
        T.due("17 downwards", rays.shiftOf(0, true, 750), 79);
        T.due("17 straight", rays.shiftOf(1, true, 0), 0);
        T.due("17 it could not begin", rays.shiftOf(0, false, 3999), -1);
        T.due("17 absorbed", Check.of("layer 4000 thick 999 loss 99;").shiftOf(0, true, 3999), 44887);
        T.due("17 changes nothing", rays.undoCount(), 1);
    }

    private static void promises18And19() {
        RayLayers rays = Check.of("layer 2000 thick 10;outside 1500;bottom open 1200;");
        int[][] due = {{300, 1200}, {1200, 0}, {0, -1}, {500, 1500}};
        int[][] dueUp = {{1500, 0}, {0, -1}, {0, -1}, {500, 1500}};
        for (int end = 0; end < 4; end++) {
            T.due("18 slants down, end " + end, rays.slants(0, true, end), due[end][0]);
            T.due("19 leastSlant down, end " + end, rays.leastSlant(0, true, end), due[end][1]);
            T.due("18 slants up, end " + end, rays.slants(0, false, end), dueUp[end][0]);
            T.due("19 leastSlant up, end " + end, rays.leastSlant(0, false, end), dueUp[end][1]);
        }
        T.due("18 all of the most slants", Check.of("layer 4000 thick 1;bottom open 4000;").slants(0, true, 1), 4000);
        // All is lost on a leg with 99 * (999 * 1000 / root) of 1000000 or more: the root is 99 with slant 995, and 89 with 996.
        RayLayers lossy = Check.of("layer 1000 thick 999 loss 99;");
        T.due("18 absorbed", lossy.slants(0, true, 2), 4);
        T.due("19 absorbed", lossy.leastSlant(0, true, 2), 996);
    }

    private static void promise20() {
        // Up from the bottom: 100 * slant / root is 0 up to slant 9, 75 with 600 of 800, 76 from 606 on.
        RayLayers rays = Check.of("layer 1000 thick 100;");
        T.due("20 straight", rays.slantFor(0, false, 0), 0);
        T.due("20 the least shift", rays.slantFor(0, false, 1), 10);
        T.due("20 the lowest one", rays.slantFor(0, false, 75), 600);
        T.due("20 the farthest", rays.slantFor(0, false, Integer.MAX_VALUE), 999);
        // 100 * 999 / 44 = 2270 and 100 * 998 / 63 = 1584: 1927 is as near to both.
        T.due("20 as near to two", rays.slantFor(0, false, 1927), 998);
        T.due("20 nearer to the greater one", rays.slantFor(0, false, 1928), 999);
        T.due("20 none is out at the top", rays.slantFor(0, true, 5), -1);
        rays.setMirror(100);
        T.due("20 by the mirror", rays.slantFor(0, true, 150), 600);
    }

    private static void promises21To23() {
        RayLayers rays = Check.of("layer 2000 thick 10 loss 1;outside 1500;bottom open 1200;");
        T.due("21 the lowest one", rays.fastest(0, false, 0), 0);
        T.due("21 those out at the top", rays.fastest(0, true, 0), 1200);
        T.due("21 the trapped ones", rays.fastest(0, true, 3), 1500);
        T.due("21 none", rays.fastest(0, true, 2), -1);
        T.due("22 the lowest one", rays.brightest(0, true, 1), 0);
        T.due("22 those out at the top", rays.brightest(0, true, 0), 1200);
        T.due("22 none", rays.brightest(0, false, 1), -1);
        // 10 * 1199 / 1600 = 7; 2 * (10 * 1499 / 1324) = 22; 60 * (10 * 1999 / 63) = 19020.
        T.due("23 bottom", rays.farthest(0, true, 1), 7);
        T.due("23 top", rays.farthest(0, true, 0), 22);
        T.due("23 trapped", rays.farthest(0, true, 3), 19020);
        T.due("23 none", rays.farthest(0, true, 2), -1);
        // Passing into the layer below loses power, a total reflection at it does not.
        RayLayers two = Check.of("layer 2000 thick 10;layer 1000 thick 10;bottom mirror 100;");
        T.due("22 more power farther on", two.brightest(0, true, 3), 1000);
        two.setOutside(2000);
        T.due("22 reflected", two.brightest(0, true, 0), 1000);
        // With slant 1000 only the layer above is crossed, twice: 2 * (11 * 2000 / 1000).
        T.due("21 reflected", two.fastest(0, true, 0), 1000);
        RayLayers lossy = Check.of("layer 1000 thick 999 loss 99;");
        T.due("21 absorbed", lossy.fastest(0, true, 2), 996);
        T.due("22 absorbed", lossy.brightest(0, true, 2), 996);
        T.due("23 absorbed", lossy.farthest(0, true, 2), 999 * 999 / 44);
    }

    private static void promise24() {
        T.due("24 the only layer", new RayLayers().guide(), 0);
        T.due("24 none", Check.of("layer 1000 thick 1;layer 1000 thick 1;").guide(), -1);
        RayLayers rays = Check.of("layer 1500 thick 10;layer 2000 thick 10;layer 2000 thick 10;layer 1200 thick 10;");
        T.due("24 the lowest of two", rays.guide(), 1);
        rays.setLayer(2, 0, 2100);
        T.due("24 the most", rays.guide(), 2);
        // Down, the mirror is behind the legs 1 to 59, up behind the legs 2 to 58: the 30th mirroring leaves no power.
        T.due("24 down, not up", Check.of("layer 1200 thick 10;bottom mirror 64;").guide(), -1);
        T.due("24 with a little more", Check.of("layer 1200 thick 10;bottom mirror 65;").guide(), 0);
        T.due("18 up, not down", Check.of("layer 1200 thick 10;bottom mirror 64;").slants(0, false, 3), 200);
        T.due("24 one slant", Check.of("layer 1500 thick 10;outside 1499;bottom open 1499;").guide(), 0);
        RayLayers mirrored = Check.of("layer 1300 thick 10;layer 1200 thick 10;layer 2000 thick 10;bottom mirror 100;");
        T.due("24 by a mirror", mirrored.guide(), 2);
        mirrored.setMirror(0);
        T.due("24 absorbed ones do not count", mirrored.guide(), 0);
    }

    private static void wrongInputs() {
        RayLayers rays = new RayLayers();
        for (int layer : new int[] {-1, 1, Integer.MAX_VALUE, Integer.MIN_VALUE}) {
            T.dueIndex("16 layer " + layer, () -> rays.endOf(layer, true, 4000));
            T.dueIndex("17 layer " + layer, () -> rays.shiftOf(layer, true, 4000));
            T.dueIndex("18 layer " + layer, () -> rays.slants(layer, true, 4));
            T.dueIndex("19 layer " + layer, () -> rays.leastSlant(layer, true, 4));
            T.dueIndex("20 layer " + layer, () -> rays.slantFor(layer, true, -1));
            T.dueIndex("21 layer " + layer, () -> rays.fastest(layer, true, 4));
            T.dueIndex("22 layer " + layer, () -> rays.brightest(layer, true, 4));
            T.dueIndex("23 layer " + layer, () -> rays.farthest(layer, true, 4));
        }
        for (int wrong : new int[] {-1, 4000, Integer.MAX_VALUE, Integer.MIN_VALUE}) {
            T.dueArgument("16 slant " + wrong, () -> rays.endOf(0, true, wrong));
            T.dueArgument("17 slant " + wrong, () -> rays.shiftOf(0, true, wrong));
        }
        for (int wrong : new int[] {-1, 4, Integer.MAX_VALUE, Integer.MIN_VALUE}) {
            T.dueArgument("18 end " + wrong, () -> rays.slants(0, true, wrong));
            T.dueArgument("19 end " + wrong, () -> rays.leastSlant(0, true, wrong));
            T.dueArgument("21 end " + wrong, () -> rays.fastest(0, true, wrong));
            T.dueArgument("22 end " + wrong, () -> rays.brightest(0, true, wrong));
            T.dueArgument("23 end " + wrong, () -> rays.farthest(0, true, wrong));
        }
        T.dueArgument("20 shift -1", () -> rays.slantFor(0, true, -1));
        T.dueArgument("20 the least shift", () -> rays.slantFor(0, true, Integer.MIN_VALUE));
    }
}
