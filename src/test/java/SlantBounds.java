/** Promises 16 to 24: what a shot would do, and with which slants. */
final class SlantBounds {
    private static final String INDEX = "IndexOutOfBoundsException";
    private static final String ARGUMENT = "IllegalArgumentException";
    private static final String LAYER = "layer: number of a layer";
    private static final String DOWN = "down: true for down from its top, false for up from its bottom";
    private static final String NO_LAYER = "Throws IndexOutOfBoundsException if there is no such layer";
    /** Two layers that absorb nothing above one that does, and a mirror that makes the power less. */
    private static final String MIXED = "layer 1100 thick 10;layer 1300 thick 10;layer 2000 thick 50 loss 2;outside 1050;bottom mirror 60;";

    private final Check t;

    SlantBounds(Check t) {
        this.t = t;
    }

    void hold() {
        endOf();
        shiftOf();
        slants();
        leastSlant();
        slantFor();
        fastest();
        brightest();
        farthest();
        guide();
        eachSlant();
    }

    /** What these methods ask of their layer. */
    private interface Asked {
        Object answer(RayLayers rays, int layer, boolean down, int value);
    }

    private void layersOf(int promise, Asked asked) {
        t.says(promise, LAYER, NO_LAYER);
        RayLayers most = Check.of("layer1500thick1;".repeat(10));
        RayLayers only = new RayLayers();
        t.range("one of ten, down", 0, 9, INDEX, layer -> asked.answer(most, layer, true, 0));
        t.range("one of ten, up", 0, 9, INDEX, layer -> asked.answer(most, layer, false, 0));
        t.range("the only one", 0, 0, INDEX, layer -> asked.answer(only, layer, true, 0));
        most.removeLayer(4);
        t.dueIndex("the tenth of nine", () -> asked.answer(most, 9, true, 0));
    }

    private void directions(int promise, Asked asked, int value, Object dueDown, Object dueUp) {
        t.says(promise, DOWN);
        RayLayers rays = Check.of("layer 2000 thick 10;layer 1500 thick 20;outside 1500;bottom open 1200;");
        t.due("down", asked.answer(rays, 0, true, value), dueDown);
        t.due("up", asked.answer(rays, 0, false, value), dueUp);
    }

    private void endOf() {
        layersOf(16, RayLayers::endOf);
        directions(16, RayLayers::endOf, 1100, 1, 0);
        t.says(16, "slant: 0 to 3999", "Throws IllegalArgumentException if slant is out of range");
        RayLayers rays = new RayLayers();
        t.range("slant down", 0, 3999, ARGUMENT, slant -> rays.endOf(0, true, slant));
        t.range("slant up", 0, 3999, ARGUMENT, slant -> rays.endOf(0, false, slant));
        t.says(16, "Returns the end that a shot would have.");
        int[][] due = {{0, 1}, {999, 1}, {1000, 3}, {1001, 3}, {1499, 3}, {1500, 4}, {1501, 4}, {3998, 4}, {3999, 4}};
        for (int[] slant : due) {
            t.due("down with slant " + slant[0], rays.endOf(0, true, slant[0]), slant[1]);
            t.due("up with slant " + slant[0], rays.endOf(0, false, slant[0]), slant[1] == 1 ? 0 : slant[1]);
        }
        rays.setLayer(0, 0, 4000);
        t.due("the greatest slant in the greatest index", rays.endOf(0, true, 3999), 3);
        RayLayers lossy = Check.of("layer 1000 thick 999 loss 99;");
        t.due("not quite absorbed", lossy.endOf(0, true, 995), 1);
        t.due("absorbed", lossy.endOf(0, true, 996), 2);
        t.due("there is no shot by that", rays.property(4), 0);
    }

    private void shiftOf() {
        layersOf(17, RayLayers::shiftOf);
        directions(17, RayLayers::shiftOf, 900, 20, 5);
        t.says(17, "slant: 0 to 3999", "Throws IllegalArgumentException if slant is out of range");
        RayLayers rays = Check.of("layer 1250 thick 100;");
        t.range("slant down", 0, 3999, ARGUMENT, slant -> rays.shiftOf(0, true, slant));
        t.range("slant up", 0, 3999, ARGUMENT, slant -> rays.shiftOf(0, false, slant));
        t.says(17, "Returns the sum of shifts that a shot would have; NONE if it could not begin.");
        int[][] due = {{0, 0}, {12, 0}, {13, 1}, {750, 75}, {1249, 60 * (100 * 1249 / 49)}, {1250, -1}, {1251, -1}, {3999, -1}};
        for (int[] slant : due) {
            t.due("slant " + slant[0], rays.shiftOf(0, true, slant[0]), slant[1]);
        }
        t.due("the greatest sum", Check.of("layer 4000 thick 999;").shiftOf(0, true, 3999), 2693220);
        t.due("an absorbed one", Check.of("layer 4000 thick 999 loss 99;").shiftOf(0, true, 3999), 44887);
    }

    private void endsOf(int promise, Asked asked) {
        t.says(promise, "end: TOP, BOTTOM, ABSORBED or TRAPPED", "Throws IllegalArgumentException if end is out of range");
        RayLayers rays = new RayLayers();
        t.range("end down", 0, 3, ARGUMENT, end -> asked.answer(rays, 0, true, end));
        t.range("end up", 0, 3, ARGUMENT, end -> asked.answer(rays, 0, false, end));
        t.dueArgument("NO_BEGIN", () -> asked.answer(rays, 0, true, RayLayers.NO_BEGIN));
    }

    /** Answers for the ends 0 to 3, in one layer and direction. */
    private void four(String name, RayLayers rays, int layer, boolean down, Asked asked, String due) {
        StringBuilder got = new StringBuilder();
        for (int end = 0; end < 4; end++) {
            got.append(end == 0 ? "" : " ").append(asked.answer(rays, layer, down, end));
        }
        t.due(name, got.toString(), due);
    }

    /** Answers for the mixed layers: down and up in each of them. */
    private void mixed(Asked asked, String... due) {
        for (int layer = 0; layer < 3; layer++) {
            RayLayers rays = Check.of(MIXED);
            four("down in layer " + layer, rays, layer, true, asked, due[2 * layer]);
            four("up in layer " + layer, rays, layer, false, asked, due[2 * layer + 1]);
        }
    }

    private void slants() {
        Asked asked = RayLayers::slants;
        layersOf(18, asked);
        directions(18, asked, 0, 300, 1500);
        endsOf(18, asked);
        t.says(18, "Returns with how many slants a shot would have this end.");
        four("all with one end", Check.of("layer 4000 thick 1;bottom open 4000;"), 0, true, asked, "0 4000 0 0");
        four("the least index", Check.of("layer 1000 thick 1;"), 0, true, asked, "0 1000 0 0");
        four("one trapped", Check.of("layer 1500 thick 10;outside 1499;bottom open 1499;"), 0, true, asked, "0 1499 0 1");
        four("none trapped", Check.of("layer 1500 thick 10;outside 1500;bottom open 1499;"), 0, true, asked, "1 1499 0 0");
        four("four absorbed", Check.of("layer 1000 thick 999 loss 99;"), 0, false, asked, "996 0 4 0");
        four("nineteen absorbed", Check.of("layer 4000 thick 999 loss 99;outside 4000;bottom open 4000;"), 0, true, asked, "0 3981 19 0");
        four("all absorbed by a mirror", Check.of("layer 1000 thick 10;layer 1000 thick 10;bottom mirror 0;"), 0, true, asked, "0 0 1000 0");
        four("none absorbed by a mirror", Check.of("layer 1000 thick 10;layer 1000 thick 10;bottom mirror 1;"), 0, true, asked, "1000 0 0 0");
        mixed(asked, "1050 0 0 50", "1050 0 0 50", "1050 0 0 250", "1050 0 0 250", "1050 0 700 250", "1050 0 700 250");
    }

    private void leastSlant() {
        Asked asked = RayLayers::leastSlant;
        layersOf(19, asked);
        directions(19, asked, 0, 1200, 0);
        endsOf(19, asked);
        t.says(19, "Returns the least slant with which a shot would have this end; NONE if there is none.");
        four("slant 0, and none", Check.of("layer 4000 thick 1;bottom open 4000;"), 0, true, asked, "-1 0 -1 -1");
        four("the greatest slant", Check.of("layer 4000 thick 1;outside 3999;bottom open 3999;"), 0, true, asked, "-1 0 -1 3999");
        four("the greatest slant at the top", Check.of("layer 1500 thick 10;outside 1500;bottom open 1499;"), 0, true, asked, "1499 0 -1 -1");
        four("absorbed", Check.of("layer 1000 thick 999 loss 99;"), 0, false, asked, "0 -1 996 -1");
        four("slant 0 is absorbed", Check.of("layer 1000 thick 10;bottom mirror 0;"), 0, true, asked, "-1 -1 0 -1");
        mixed(asked, "0 -1 -1 1050", "0 -1 -1 1050", "0 -1 -1 1050", "0 -1 -1 1050", "0 -1 1300 1050", "0 -1 1300 1050");
    }

    /** From slant 1000 to 1499 trapped in both layers, from 1500 on in the upper one alone: in less time, with more power, with a less sum of shifts. */
    private static RayLayers guides() {
        return Check.of("layer 2000 thick 10;layer 1500 thick 100;");
    }

    private void slantFor() {
        layersOf(20, RayLayers::slantFor);
        t.says(20, DOWN);
        RayLayers rays = Check.of("layer 1000 thick 100;");
        t.due("up is out at the top", rays.slantFor(0, false, 0), 0);
        t.due("down is not", rays.slantFor(0, true, 0), -1);
        t.says(20, "shift: 0 or more", "Throws IllegalArgumentException if shift is below 0");
        t.range("shift", 0, Integer.MAX_VALUE, ARGUMENT, shift -> rays.slantFor(0, false, shift));
        t.range("shift, where none is out", 0, Integer.MAX_VALUE, ARGUMENT, shift -> rays.slantFor(0, true, shift));
        t.says(20, "Returns the slant with which a shot would be out at the top with the sum of shifts that is nearest to this one, "
                + "the lowest one of several; NONE if none would be out there.");
        // Shifts are 0 up to slant 9, 1 from 10 on, 75 from 600 to 604, 1119, 1294, 1584 and 2270 with 996 to 999.
        int[][] due = {{0, 0}, {1, 10}, {75, 600}, {76, 605}, {1294, 997}, {1295, 997}, {1438, 997}, {1439, 997}, {1440, 998}, {1583, 998}, {1584, 998},
                {1585, 998}, {1926, 998}, {1927, 998}, {1928, 999}, {2269, 999}, {2270, 999}, {2271, 999}, {Integer.MAX_VALUE, 999}};
        for (int[] shift : due) {
            t.due("shift " + shift[0], rays.slantFor(0, false, shift[0]), shift[1]);
        }
        // By the mirror all sums are even: 1 is as near to 0 as to 2, and slants up to 9 come first.
        rays.setMirror(100);
        int[][] even = {{0, 0}, {1, 0}, {2, 10}, {3, 10}, {149, 595}, {150, 600}, {151, 600}, {Integer.MAX_VALUE, 999}};
        for (int[] shift : even) {
            t.due("by the mirror, shift " + shift[0], rays.slantFor(0, true, shift[0]), shift[1]);
        }
        rays.setMirror(0);
        t.due("none by the mirror of 0 percents", rays.slantFor(0, true, 0), -1);
        t.due("one alone", Check.of("layer 1500 thick 10;outside 1500;bottom open 1499;").slantFor(0, true, 0), 1499);
        t.due("none of a trapping layer", Check.of("layer 1500 thick 10;bottom open 1499;").slantFor(0, true, 554), -1);
        // Sums of 14 are those of the slants 537 to 574, by both layers, and of 1200 to 1249, by the upper one alone.
        RayLayers falling = Check.of("layer 2000 thick 10;layer 1200 thick 10;outside 2000;bottom mirror 100;");
        t.due("the lowest of two far from each other", falling.slantFor(0, true, 14), 537);
        t.due("that of a sum which comes back", falling.slantFor(0, true, 44), 1029);
    }

    private void fastest() {
        Asked asked = RayLayers::fastest;
        layersOf(21, asked);
        directions(21, asked, 3, 1500, 1500);
        endsOf(21, asked);
        t.says(21, "Returns the slant with which a shot would have this end in the least sum of times, the lowest one of several; NONE if none has it.");
        four("slant 0 of several, and none", Check.of("layer 4000 thick 1;bottom open 4000;"), 0, true, asked, "-1 0 -1 -1");
        four("the greatest slant", Check.of("layer 4000 thick 1;outside 3999;bottom open 3999;"), 0, true, asked, "-1 0 -1 3999");
        four("absorbed", Check.of("layer 1000 thick 999 loss 99;"), 0, false, asked, "0 -1 996 -1");
        // With slant 1000 the ray is reflected below the first layer, and out before it would have crossed the second one.
        t.due("a greater slant in less time", Check.of("layer 2000 thick 10;layer 1000 thick 10;outside 2000;bottom mirror 100;").fastest(0, true, 0), 1000);
        // Twice 10 * 2000 / 1732 * 2 = 22 with slant 1000, and 2 * (20 + 1) = 42 with slant 0 by the thin layer: 44 is more.
        t.due("just as long, and less", Check.of("layer 2000 thick 10;layer 1000 thick 1;outside 2000;bottom mirror 100;").fastest(0, true, 0), 0);
        t.due("the same time: the lowest one", Check.of("layer 2000 thick 10;layer 1000 thick 2;outside 2000;bottom mirror 100;").fastest(0, true, 0), 0);
        t.due("longer by 2", Check.of("layer 2000 thick 10;layer 1000 thick 3;outside 2000;bottom mirror 100;").fastest(0, true, 0), 1000);
        t.due("trapped in both layers or in one", guides().fastest(0, true, 3), 1500);
        t.due("trapped, from the lower one", guides().fastest(1, true, 3), 1000);
        mixed(asked, "0 -1 -1 1050", "0 -1 -1 1050", "0 -1 -1 1050", "0 -1 -1 1050", "0 -1 1300 1050", "0 -1 1300 1050");
    }

    private void brightest() {
        Asked asked = RayLayers::brightest;
        layersOf(22, asked);
        directions(22, asked, 3, 1500, 1500);
        endsOf(22, asked);
        t.says(22, "Returns the slant with which a shot would have this end with the most power, the lowest one of several; NONE if none has it.");
        four("slant 0 of several, and none", Check.of("layer 4000 thick 1;bottom open 4000;"), 0, true, asked, "-1 0 -1 -1");
        four("the greatest slant", Check.of("layer 4000 thick 1;outside 3999;bottom open 3999;"), 0, true, asked, "-1 0 -1 3999");
        four("power 0: the lowest one", Check.of("layer 1000 thick 999 loss 99;"), 0, false, asked, "0 -1 996 -1");
        // A crossing costs power, a total reflection does not.
        t.due("a greater slant with more power", Check.of("layer 2000 thick 10;layer 1000 thick 10;outside 2000;bottom mirror 100;").brightest(0, true, 0), 1000);
        // 9 / 3003 / 3003 of 1000000 is 0.998, 16 / 3004 / 3004 is 1.77.
        t.due("the same power: the lowest one", Check.of("layer 1503 thick 10;layer 1500 thick 10;outside 1503;bottom mirror 100;").brightest(0, true, 0), 0);
        t.due("less power by 1 a crossing", Check.of("layer 1504 thick 10;layer 1500 thick 10;outside 1504;bottom mirror 100;").brightest(0, true, 0), 1500);
        t.due("trapped in both layers or in one", guides().brightest(0, true, 3), 1500);
        t.due("trapped, from the lower one", guides().brightest(1, true, 3), 1000);
        mixed(asked, "0 -1 -1 1050", "0 -1 -1 1050", "0 -1 -1 1050", "0 -1 -1 1050", "0 -1 1300 1050", "0 -1 1300 1050");
    }

    private void farthest() {
        Asked asked = RayLayers::farthest;
        layersOf(23, asked);
        directions(23, asked, 3, 19020, 19020);
        endsOf(23, asked);
        t.says(23, "Returns the greatest sum of shifts of a shot with this end; NONE if none has it.");
        four("bottom", Check.of("layer 1500 thick 10;outside 1499;bottom open 1499;"), 0, true, asked, "-1 194 -1 16620");
        four("not NONE but 0", Check.of("layer 1500 thick 1;outside 1000;bottom mirror 0;"), 0, true, asked, "-1 -1 27 -1");
        four("absorbed", Check.of("layer 1000 thick 999 loss 99;"), 0, false, asked, "10040 -1 22681 -1");
        t.due("the greatest sum", Check.of("layer 4000 thick 999;").farthest(0, true, 3), 2693220);
        // 30 * (10 * 1499 / 1324 + 100 * 1499 / 54) with slant 1499, 60 * (10 * 1999 / 63) with slant 1999.
        t.due("trapped in both layers or in one", guides().farthest(0, true, 3), 30 * (11 + 2775));
        mixed(asked, "148 -1 -1 5700", "31 -1 -1 5700", "117 -1 -1 9030", "44 -1 -1 9030", "104 -1 80886 9030", "74 -1 82472 9030");
    }

    private void guide() {
        t.says(24, "Returns the layer whose own shots down are trapped with the most slants, the lowest one of several; NONE if none is.");
        t.due("no slant", Check.of("layer 1500 thick 10;outside 1500;bottom open 1500;").guide(), -1);
        t.due("no slant: reflected below alone", Check.of("layer 1500 thick 10;outside 1500;").guide(), -1);
        t.due("no slant: reflected above alone", Check.of("layer 1500 thick 10;bottom open 1500;").guide(), -1);
        t.due("one slant", Check.of("layer 1500 thick 10;outside 1499;bottom open 1499;").guide(), 0);
        t.due("one slant in the last of ten", Check.of("layer1000thick1;".repeat(9) + "layer1001thick1;").guide(), 9);
        for (int layer = 0; layer < 5; layer++) {
            t.due("layer " + layer + " of five", Check.of("layer1200thick1;".repeat(layer) + "layer1300thick1;" + "layer1200thick1;".repeat(4 - layer)
                    + "outside1150;bottom open 1150;").guide(), layer);
        }
        t.due("the lowest of two", Check.of("layer 1500 thick 1;layer 1200 thick 1;layer 1500 thick 1;").guide(), 0);
        t.due("one more slant", Check.of("layer 1500 thick 1;layer 1200 thick 1;layer 1501 thick 1;").guide(), 2);
        t.due("one slant less", Check.of("layer 1500 thick 1;layer 1200 thick 1;layer 1499 thick 1;").guide(), 0);
        // Each of both is trapped with the slants 1000 to 1499; shots up would be so too.
        t.due("two in one guide", Check.of("layer 1500 thick 1;layer 1500 thick 1;").guide(), 0);
        // The 30th mirroring makes the power 0; a shot down has it behind leg 59, a shot up would have it behind leg 60.
        t.due("down, with 64 percents", Check.of("layer 1200 thick 10;bottom mirror 64;").guide(), -1);
        t.due("down, with 65 percents", Check.of("layer 1200 thick 10;bottom mirror 65;").guide(), 0);
    }

    /** Each slant by a shot of its own, against what the promises 18 to 23 say of all slants. */
    private void eachSlant() {
        t.says(18, "Returns with how many slants a shot would have this end.");
        each("layer 1100 thick 10;layer 1300 thick 10;layer 1500 thick 50 loss 2;outside 1050;bottom mirror 60;", 2, true);
        each("layer 1400 thick 300 loss 9;layer 1001 thick 3 loss 1;layer 1450 thick 999;outside 1350;bottom open 1449;", 0, true);
        each("layer 1400 thick 300 loss 9;layer 1001 thick 3 loss 1;layer 1450 thick 999;outside 1350;bottom open 1449;", 2, false);
        each("layer 2000 thick 10;layer 1500 thick 100;", 0, true);
        each("layer 1000 thick 1;layer 1001 thick 999 loss 99;layer 1002 thick 1;outside 1002;bottom mirror 99;", 1, false);
    }

    private void each(String text, int layer, boolean down) {
        int[] count = new int[4];
        int[] least = {-1, -1, -1, -1};
        int[] fast = {-1, -1, -1, -1};
        int[] bright = {-1, -1, -1, -1};
        int[] far = {-1, -1, -1, -1};
        int[] time = new int[4];
        int[] power = new int[4];
        RayLayers rays = Check.of(text);
        int slants = rays.layer(layer, 0);
        for (int slant = 0; slant < slants; slant++) {
            RayLayers one = Check.of(text + "shot " + layer + (down ? " down " : " up ") + slant + ";");
            int end = one.path(0, 1);
            if (count[end] == 0) {
                least[end] = slant;
            }
            if (count[end] == 0 || one.path(0, 4) < time[end]) {
                fast[end] = slant;
                time[end] = one.path(0, 4);
            }
            if (count[end] == 0 || one.path(0, 5) > power[end]) {
                bright[end] = slant;
                power[end] = one.path(0, 5);
            }
            far[end] = Math.max(far[end], one.path(0, 2));
            count[end]++;
        }
        for (int end = 0; end < 4; end++) {
            String name = " with end " + end + " of " + text;
            t.due("slants" + name, rays.slants(layer, down, end), count[end]);
            t.due("leastSlant" + name, rays.leastSlant(layer, down, end), least[end]);
            t.due("fastest" + name, rays.fastest(layer, down, end), fast[end]);
            t.due("brightest" + name, rays.brightest(layer, down, end), bright[end]);
            t.due("farthest" + name, rays.farthest(layer, down, end), far[end]);
        }
    }
}
