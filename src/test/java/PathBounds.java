/** "Terms 2" and promises 7 to 15: layers, shots, legs, powers and ends of paths, and where a ray is at a time. */
final class PathBounds {
    private static final String TERMS = "Terms 2";
    private static final String INDEX = "IndexOutOfBoundsException";
    private static final String ARGUMENT = "IllegalArgumentException";
    /** Ten layers and twenty shots, as many as there can be; the last shot is alone in the last layer. */
    private static final String MOST = "layer4000thick999loss9;".repeat(9) + "layer1500thick1;" + "shot0up0;".repeat(17);

    private final Check t;

    PathBounds(Check t) {
        this.t = t;
    }

    void hold() {
        roots();
        quotients();
        shotsAndBegins();
        legs();
        powers();
        absorptions();
        passing();
        totalReflections();
        outs();
        mirrorings();
        sixtiethLeg();
        ends();
        property();
        layer();
        shot();
        path();
        leg();
        legAt();
        shiftAt();
        depthAt();
        critical();
    }

    private static RayLayers one(int index, int thickness, int loss, String behind) {
        return Check.of("layer " + index + " thick " + thickness + " loss " + loss + ";" + behind);
    }

    /** Shift, length and time of the first leg in a single layer. */
    private static String firstLeg(int index, int thickness, int slant) {
        RayLayers rays = one(index, thickness, 0, "shot 0 down " + slant + ";");
        return rays.leg(0, 0, 2) + " " + rays.leg(0, 0, 3) + " " + rays.leg(0, 0, 4);
    }

    private static String path(RayLayers rays, int shot) {
        StringBuilder path = new StringBuilder();
        for (int what = 0; what <= 9; what++) {
            path.append(what == 0 ? "" : " ").append(rays.path(shot, what));
        }
        return path.toString();
    }

    private void roots() {
        t.says(TERMS, "A ROOT is the greatest whole number whose square is not greater than a number.");
        // 1335 * 1335 - 1068 * 1068 is 801 * 801; 1002 and 602 give less by 1, 800 is its root.
        t.due("a square", firstLeg(1335, 999, 1068), "1332 1665 2222");
        t.due("a square less 1", firstLeg(1002, 999, 602), "751 1251 1253");
        // 1041 * 1041 - 724 * 724 is 748 * 748 + 1.
        t.due("a square and 1", firstLeg(1041, 999, 724), "966 1390 1446");
        t.due("another square, 800 * 800", firstLeg(1000, 999, 600), "749 1248 1248");
        // Powers of two, of 2560 and 1536, 1280 and 768, 1088 and 960.
        t.due("2048 * 2048", firstLeg(2560, 999, 1536), "749 1248 3194");
        t.due("1024 * 1024", firstLeg(1280, 999, 768), "749 1248 1597");
        t.due("512 * 512", firstLeg(1088, 999, 960), "1873 2122 2308");
        // With slant 1 the root is the index less 1.
        t.due("a square less 1, of slant 1", firstLeg(1000, 999, 1), "1 1000 1000");
        t.due("the greatest one: 4000", firstLeg(4000, 999, 0), "0 999 3996");
        t.due("the greatest one less 1: 3999", firstLeg(4000, 999, 1), "0 999 3996");
        t.due("the least one: 44 of 1999", firstLeg(1000, 999, 999), "22681 22704 22704");
        t.due("89 of 7999", firstLeg(4000, 999, 3999), "44887 44898 179592");
    }

    private void quotients() {
        t.says(TERMS, "Quotients are rounded down.");
        // The root of 1250 * 1250 - 750 * 750 is 1000: shifts of 3/4, lengths of 5/4 of the thickness, times of 5/4 of those.
        t.due("9/4, 15/4 and 15/4", firstLeg(1250, 3, 750), "2 3 3");
        t.due("12/4, 20/4 and 25/4", firstLeg(1250, 4, 750), "3 5 6");
        t.due("15/4, 25/4 and 30/4", firstLeg(1250, 5, 750), "3 6 7");
        t.due("36/4, 60/4 and 75/4", firstLeg(1250, 12, 750), "9 15 18");
        t.due("39/4, 65/4 and 80/4", firstLeg(1250, 13, 750), "9 16 20");
        t.due("the thinnest layer", firstLeg(1000, 1, 0), "0 1 1");
        t.due("the thinnest layer, 1999/1000", firstLeg(1999, 1, 0), "0 1 1");
        t.due("the thinnest layer, 2000/1000", firstLeg(2000, 1, 0), "0 1 2");
        t.due("a shift of 998/999", firstLeg(1000, 998, 1), "0 998 998");
        t.due("a shift of 999/999", firstLeg(1000, 999, 1), "1 1000 1000");
    }

    private void shotsAndBegins() {
        t.says(TERMS, "A shot has a layer, a direction (down from the top of its layer, or up from the bottom of it) "
                + "and a SLANT, which stays the same on all its path.");
        RayLayers rays = Check.of("layer 1000 thick 10;layer 1250 thick 100;layer 1300 thick 7;shot 1 down 750;shot 1 up 750;");
        t.due("down from the top", rays.depthAt(0, 0), 10);
        t.due("up from the bottom", rays.depthAt(1, 0), 110);
        t.due("the first leg down", rays.leg(0, 0, 0) * 10 + rays.leg(0, 0, 1), 11);
        t.due("the first leg up", rays.leg(1, 0, 0) * 10 + rays.leg(1, 0, 1), 10);
        // 100 * 750 / 1000 = 75, then 7 * 750 / 1061 = 4, or 10 * 750 / 661 = 11.
        t.due("shifts of slant 750 downwards", Check.legs(rays, 0, 2), "[75, 4]");
        t.due("shifts of slant 750 upwards", Check.legs(rays, 1, 2), "[75, 11]");
        t.says(TERMS, "It cannot begin if its layer does not exist, or if its slant is not less than the index of its layer; "
                + "then its path has no legs.");
        for (int slant : new int[] {1249, 1250, 1251}) {
            rays.turn(0, slant);
            t.due("slant " + slant + " in index 1250 begins", rays.path(0, 0) > 0, slant < 1250);
            t.due("slant " + slant + " in index 1250: its end is 4", rays.path(0, 1) == 4, slant >= 1250);
        }
        rays.turn(0, 3999);
        t.due("slant 3999", path(rays, 0), "0 4 0 0 0 0 0 0 0 -1");
        rays.setLayer(1, 0, 4000);
        t.due("slant 3999 in index 4000", rays.path(0, 0) > 0, true);
        rays.setLayer(1, 0, 3999);
        t.due("slant 3999 in index 3999", rays.path(0, 0), 0);
        rays.removeLayer(2);
        t.due("the last layer exists", rays.path(1, 0) > 0, true);
        rays.removeLayer(0);
        t.due("its layer is one behind the last one", path(rays, 1), "0 4 0 0 0 0 0 0 0 -1");
        rays.addLayer(1, 1000, 1, 0);
        t.due("its layer exists again", rays.path(1, 0) > 0, true);
    }

    private void legs() {
        t.says(TERMS, "A LEG crosses a layer from one side to the other one.");
        RayLayers rays = Check.of("layer 1000 thick 10;layer 1000 thick 20;shot 0 down 0;");
        t.due("at its beginning", rays.depthAt(0, 0), 0);
        t.due("just ahead of its end", rays.depthAt(0, 9), 9);
        t.due("at its end the next one begins", rays.depthAt(0, 10), 10);
        t.says(TERMS, "With the index n, the thickness d and the slant p of it, let c be the root of n * n - p * p. "
                + "The leg has the SHIFT d * p / c, the LENGTH d * n / c, and the TIME of its length * n / 1000.");
        t.due("the least index, thickness and slant", firstLeg(1000, 1, 0), "0 1 1");
        t.due("the greatest index and thickness, slant 0", firstLeg(4000, 999, 0), "0 999 3996");
        t.due("the greatest index, thickness and slant", firstLeg(4000, 999, 3999), "44887 44898 179592");
        t.due("the least index and thickness, the greatest slant", firstLeg(1000, 1, 999), "22 22 22");
        // The time goes by the length's whole number: 3 * 1250 / 1000 = 3, not 3.75 * 1250 / 1000 = 4.
        t.due("a time of a length rounded down", firstLeg(1250, 3, 750), "2 3 3");
    }

    private void powers() {
        t.says(TERMS, "The POWER of a path is 1000000 at first; by a leg it becomes less by the power * the loss of the layer * "
                + "the length / 1000000, but not below 0.");
        t.due("without a loss", one(1000, 999, 0, "shot 0 down 0;").path(0, 5), 1000000);
        t.due("the least loss", one(1000, 1, 1, "shot 0 down 0;").path(0, 5), 999999);
        t.due("the greatest loss, straight", one(1000, 999, 99, "shot 0 down 0;").path(0, 5), 901099);
        // Lengths of 19977, 20000 and 20022, times 50: less than 1000000, just 1000000, more.
        t.due("1000000 less 998850", one(1000, 879, 50, "shot 0 down 999;").path(0, 5), 1150);
        t.due("1000000 less 1000000", one(1000, 880, 50, "shot 0 down 999;").path(0, 5), 0);
        t.due("1000000 less 1001100", one(1000, 881, 50, "shot 0 down 999;").path(0, 5), 0);
        // Lengths of 10101 and 10102, times 99.
        t.due("1000000 less 999999", one(1250, 800, 99, "shot 0 down 1246;").leg(0, 0, 5), 1);
        t.due("1000000 less 1000098", one(1250, 396, 99, "shot 0 down 1249;").leg(0, 0, 5), 0);
        t.due("the most that can be lost", one(4000, 999, 99, "shot 0 down 3999;").leg(0, 0, 5), 0);
        // 640000 by the crossing; 640000 * 24, 25 and 26 / 1000000 are 15.36, 16 and 16.64.
        for (int thickness : new int[] {24, 25, 26}) {
            RayLayers rays = Check.of("layer 1000 thick 1;layer 4000 thick " + thickness + " loss 1;shot 0 down 0;");
            t.due("a part of the power, thickness " + thickness, rays.path(0, 5), 640000 - (thickness == 24 ? 15 : 16));
        }
    }

    private void absorptions() {
        t.says(TERMS, "Behind a leg, if the power is 0, the path ends: ABSORBED.");
        t.due("power 0", path(one(1000, 880, 50, "shot 0 down 999;"), 0), "1 2 19980 20000 20000 0 0 0 0 0");
        t.due("below 0", path(one(1250, 396, 99, "shot 0 down 1249;"), 0), "1 2 10093 10102 12627 0 0 0 0 0");
        // Power 1 loses 0.99 at most by each further leg, which is rounded down to 0.
        t.due("power 1", path(one(1250, 800, 99, "shot 0 down 1246;"), 0), "60 3 604080 606060 757560 1 59 0 0 0");
        t.due("power 1, out", path(one(1250, 800, 99, "outside 1247;shot 0 up 1246;"), 0), "1 0 10068 10101 12626 1 0 0 0 0");
        t.due("power 0, where it would be out", one(1250, 801, 99, "outside 1247;shot 0 up 1246;").path(0, 1), 2);
        RayLayers second = Check.of("layer 1000 thick 880 loss 50;layer 1000 thick 1;shot 1 up 999;");
        t.due("absorbed on the second leg", path(second, 0), "2 2 20002 20022 20022 0 0 0 1 1");
    }

    private void passing() {
        t.says(TERMS, "Otherwise the ray is at the other side of its layer: if there is a layer behind that with an index above the slant, the ray PASSES:");
        RayLayers rays = Check.of("layer 1500 thick 10;layer 1300 thick 10;layer 1500 thick 10;shot 0 down 0;shot 2 up 0;");
        for (int slant : new int[] {0, 1298, 1299, 1300, 1301, 1499}) {
            for (int shot = 0; shot < 2; shot++) {
                rays.turn(shot, slant);
                t.due("passes with slant " + slant, rays.leg(shot, 0, 6), slant < 1300 ? 0 : 1);
                t.due("its next layer with slant " + slant, rays.leg(shot, 1, 0), slant < 1300 ? 1 : 2 * shot);
            }
        }
        t.says(TERMS, "its power becomes less by the power * the square of the difference of both indexes / the square of their sum; "
                + "the next leg crosses that layer in the same direction.");
        // 4 / 2002 / 2002 of 1000000 is 0.998, 9 / 2003 / 2003 is 2.24, 9000000 / 25000000 is 360000.
        int[][] losses = {{1000, 0}, {1001, 0}, {1002, 0}, {1003, 2}, {4000, 360000}};
        for (int[] loss : losses) {
            RayLayers down = Check.of("layer 1000 thick 1;layer " + loss[0] + " thick 1;shot 0 down 0;");
            t.due("from 1000 to " + loss[0], down.path(0, 5), 1000000 - loss[1]);
            t.due("the same direction down", Check.legs(down, 0, 1), "[1, 1]");
            RayLayers up = Check.of("layer " + loss[0] + " thick 1;layer 1000 thick 1;shot 1 up 0;");
            t.due("upwards from 1000 to " + loss[0], up.path(0, 5), 1000000 - loss[1]);
            t.due("the same direction up", Check.legs(up, 0, 1), "[0, 0]");
        }
        // Power 1 loses nothing by a crossing: 1 * 1250 * 1250 / 3750 / 3750 is 0.
        RayLayers little = Check.of("layer 2500 thick 1;layer 1250 thick 800 loss 99;outside 2500;shot 1 up 1246;");
        t.due("power 1 passes", little.path(0, 8) * 10 + little.path(0, 5), 11);
    }

    private void totalReflections() {
        t.says(TERMS, "If the index is not above the slant, there is a TOTAL REFLECTION: the next leg crosses the same layer in the other direction.");
        RayLayers rays = Check.of("layer 2000 thick 10;layer 1300 thick 10;shot 0 down 1300;shot 0 down 1301;shot 0 down 1299;");
        for (int shot = 0; shot < 2; shot++) {
            t.due("what happens", rays.leg(shot, 0, 6), 1);
            t.due("the same layer", rays.leg(shot, 1, 0), 0);
            t.due("the other direction", rays.leg(shot, 1, 1), 0);
            t.due("without a loss", rays.leg(shot, 1, 5), 1000000);
        }
        t.due("the index is above by 1", rays.leg(2, 0, 6), 0);
        rays.setLayer(1, 0, 1299);
        t.due("the index is the slant", rays.leg(2, 0, 6), 1);
        rays.setLayer(1, 0, 1300);
        t.due("the index is above the slant", rays.leg(2, 0, 6), 0);
    }

    private void outs() {
        t.says(TERMS, "Above the first layer, and below the last one with an open bottom, likewise by the index there: "
                + "if that is above the slant, the path ends: it is OUT at the top, or at the bottom (without another loss); "
                + "otherwise there is a total reflection.");
        RayLayers rays = Check.of("layer 1500 thick 10;outside 1200;bottom open 1200;shot 0 up 1199;shot 0 down 1199;shot 0 up 0;shot 0 down 0;");
        for (int slant : new int[] {0, 1, 1198, 1199, 1200, 1201, 1499}) {
            for (int shot = 0; shot < 2; shot++) {
                rays.turn(shot, slant);
                t.due("slant " + slant + " ahead of index 1200", rays.leg(shot, 0, 6), slant < 1200 ? 3 + shot : 1);
                t.due("its end", rays.path(shot, 1), slant < 1200 ? shot : 3);
            }
        }
        rays.setOutside(4000);
        rays.setOpen(4000);
        t.due("without another loss at the top", rays.path(2, 5), 1000000);
        t.due("without another loss at the bottom", rays.path(3, 5), 1000000);
        rays.setOutside(1000);
        rays.setOpen(1000);
        t.due("without another loss at a lower index", rays.path(2, 5) + rays.path(3, 5), 2000000);
        t.due("no crossing", rays.path(2, 8) + rays.path(3, 8), 0);
        RayLayers least = Check.of("layer 1001 thick 1;shot 0 up 999;shot 0 up 1000;shot 0 down 999;shot 0 down 1000;");
        t.due("the least index above", least.path(0, 1) * 10 + least.path(1, 1), 3);
        t.due("the least index below", least.path(2, 1) * 10 + least.path(3, 1), 13);
        RayLayers greatest = Check.of("layer 4000 thick 1;outside 4000;bottom open 3999;shot 0 up 3999;shot 0 down 3999;shot 0 down 3998;");
        t.due("the greatest slant, the greatest index", greatest.path(0, 1) * 100 + greatest.path(1, 0) * 10 + greatest.path(2, 1), 21);
    }

    private void mirrorings() {
        t.says(TERMS, "At a mirror there is a MIRRORING: the power becomes the power * the percents / 100, "
                + "and if it is 0 then, the path ends: absorbed; otherwise the next leg crosses the same layer upwards.");
        // The first leg leaves 999901; 999901 * 1 / 100 = 9999, * 99 / 100 = 989901; the second leg takes 0, 97 and 98.
        String[] due = {"1 2 0 1 1 0 0 1 0 0", "2 0 0 2 2 9999 0 1 0 0", "2 0 0 2 2 989803 0 1 0 0", "2 0 0 2 2 999803 0 1 0 0"};
        int[] percents = {0, 1, 99, 100};
        for (int mirror = 0; mirror < 4; mirror++) {
            t.due(percents[mirror] + " percents", path(one(1000, 1, 99, "bottom mirror " + percents[mirror] + ";shot 0 down 0;"), 0), due[mirror]);
        }
        // 1000000, 10000, 100 and 1 by three mirrorings of 1 percent; by the fourth one it is 0.
        RayLayers hundredth = one(1200, 10, 0, "bottom mirror 1;shot 0 down 1000;");
        t.due("powers down to 1", Check.legs(hundredth, 0, 5), "[1000000, 10000, 10000, 100, 100, 1, 1]");
        t.due("power 1 * 1 / 100", path(hundredth, 0), "7 2 105 126 147 0 3 4 0 0");
        t.due("power 1 * 99 / 100", path(one(1250, 800, 99, "bottom mirror 99;shot 0 down 1246;"), 0), "1 2 10068 10101 12626 0 0 1 0 0");
        t.due("power 1 * 100 / 100", path(one(1250, 800, 99, "outside 1247;bottom mirror 100;shot 0 down 1246;"), 0),
                "2 0 20136 20202 25252 1 0 1 0 0");
        RayLayers slants = one(1500, 1, 0, "outside 1500;bottom mirror 50;shot 0 down 0;shot 0 down 1499;shot 0 up 0;");
        t.due("slant 0", Check.legs(slants, 0, 1) + Check.legs(slants, 0, 5), "[1, 0][1000000, 500000]");
        t.due("the greatest slant", Check.legs(slants, 1, 1) + Check.legs(slants, 1, 5), "[1, 0][1000000, 500000]");
        t.due("upwards there is none", slants.path(2, 7), 0);
        RayLayers deep = Check.of("layer 1500 thick 1;layer 1500 thick 1;bottom mirror 100;shot 0 down 0;");
        t.due("the same layer upwards", Check.path(deep, 0), "v0v1^1^0t");
        t.due("between layers there is none", deep.path(0, 7), 1);
    }

    private void sixtiethLeg() {
        t.says(TERMS, "Behind the 60th leg, if the power is not 0 and the ray is not out, nothing else happens: the path ends TRAPPED.");
        RayLayers reflected = one(1200, 10, 0, "shot 0 down 1000;");
        t.due("reflected", path(reflected, 0), "60 3 900 1080 1260 1000000 59 0 0 0");
        t.due("legs 59 and 60", reflected.leg(0, 58, 6) * 10 + reflected.leg(0, 59, 6), 16);
        RayLayers crossing = Check.of("layer 1500 thick 1;layer 1600 thick 1;shot 0 up 1000;shot 0 down 1000;");
        t.due("no crossing behind it", crossing.path(0, 8) * 100 + crossing.path(0, 6), 2930);
        t.due("no loss by that", crossing.path(0, 5), crossing.leg(0, 59, 5));
        t.due("no reflection behind it", crossing.path(1, 8) * 100 + crossing.path(1, 6), 3029);
        // 64 percents thirty times make 0, twenty-nine times 1. Downwards the 30th mirroring is behind leg 59, upwards behind leg 60.
        t.due("leg 59: absorbed by the mirroring", path(one(1200, 10, 0, "bottom mirror 64;shot 0 down 1000;"), 0), "59 2 885 1062 1239 0 29 30 0 0");
        t.due("leg 60: no mirroring any more", path(one(1200, 10, 0, "bottom mirror 64;shot 0 up 1000;"), 0), "60 3 900 1080 1260 1 30 29 0 0");
        t.due("leg 58: absorbed by the mirroring", path(one(1200, 10, 0, "bottom mirror 63;shot 0 up 1000;"), 0), "58 2 870 1044 1218 0 29 29 0 0");
        t.due("the power lasts", path(one(1200, 10, 0, "bottom mirror 65;shot 0 down 1000;"), 0), "60 3 900 1080 1260 1 29 30 0 0");
        t.due("the greatest sums", path(one(4000, 999, 0, "shot 0 down 3999;"), 0), "60 3 2693220 2693880 10775520 1000000 59 0 0 0");
        t.due("losses that never make 0", path(one(4000, 999, 22, "shot 0 down 3999;"), 0), "60 3 2693220 2693880 10775520 1 59 0 0 0");
        t.due("a loss that does at once", path(one(4000, 999, 23, "shot 0 down 3999;"), 0), "1 2 44887 44898 179592 0 0 0 0 0");
        // No path is out behind more than 20 legs: there are 10 layers and 2 directions, and it would begin again.
        RayLayers longest = Check.of("layer1500thick1;".repeat(10) + "outside 1500;shot 0 down 1000;");
        t.due("out by its 20th leg", path(longest, 0), "20 0 0 20 20 1000000 1 0 18 9");
        t.due("its events", Check.legs(longest, 0, 6), "[0, 0, 0, 0, 0, 0, 0, 0, 0, 1, 0, 0, 0, 0, 0, 0, 0, 0, 0, 3]");
    }

    private void ends() {
        t.says(TERMS, "Ends are 0 out at the top, 1 out at the bottom, 2 absorbed, 3 trapped, 4 it cannot begin.");
        RayLayers rays = Check.of("layer 1500 thick 10;layer 1000 thick 880 loss 50;shot 0 up 0;shot 0 down 0;shot 1 up 999;shot 0 up 1000;shot 1 up 0;");
        rays.turn(4, 1000);
        for (int end = 0; end <= 4; end++) {
            t.due("the end of shot " + end, rays.path(end, 1), end);
        }
    }

    private void property() {
        t.says(7, "what: 0 layers; 1 the index above them; 2 the bottom: 0 open, 1 a mirror; 3 its index or percents; 4 shots; 5 the thickness of all layers",
                "Returns that number.");
        RayLayers least = Check.of("layer 1000 thick 1;bottom mirror 0;");
        RayLayers most = Check.of("layer4000thick999;".repeat(10) + "outside4000;bottom open 4000;" + "shot0up0;".repeat(18));
        most.shoot(0, true, 0);
        most.shoot(0, true, 0);
        int[] leastDue = {1, 1000, 1, 0, 0, 1};
        int[] mostDue = {10, 4000, 0, 4000, 20, 9990};
        for (int what = 0; what <= 5; what++) {
            t.due("the least of " + what, least.property(what), leastDue[what]);
            t.due("the greatest of " + what, most.property(what), mostDue[what]);
        }
        least.setMirror(100);
        t.due("all percents", least.property(3), 100);
        t.says(7, "Throws IllegalArgumentException if what is out of range");
        t.range("what", 0, 5, ARGUMENT, least::property);
    }

    private void layer() {
        t.says(8, "layer: number of a layer", "Throws IndexOutOfBoundsException if there is no such layer");
        RayLayers most = Check.of(MOST);
        t.range("one of ten", 0, 9, INDEX, layer -> most.layer(layer, 0));
        RayLayers only = new RayLayers();
        t.range("the only one", 0, 0, INDEX, layer -> only.layer(layer, 0));
        t.says(8, "what: 0 its index; 1 its thickness; 2 its loss; 3 its depth: the thickness of all layers above it", "Returns that number.");
        t.due("the first one", most.layer(0, 0) + " " + most.layer(0, 1) + " " + most.layer(0, 2) + " " + most.layer(0, 3), "4000 999 9 0");
        t.due("the second one's depth", most.layer(1, 3), 999);
        t.due("the last one", most.layer(9, 0) + " " + most.layer(9, 1) + " " + most.layer(9, 2) + " " + most.layer(9, 3), "1500 1 0 8991");
        t.says(8, "Throws IllegalArgumentException if what is out of range");
        t.range("what", 0, 3, ARGUMENT, what -> most.layer(0, what));
    }

    private void shot() {
        t.says(9, "shot: number of a shot", "Throws IndexOutOfBoundsException if there is no such shot");
        RayLayers most = Check.of("layer 4000 thick 1;layer 1000 thick 1;" + "shot 0 up 0;".repeat(18) + "shot 0 down 3999;shot 1 up 0;");
        t.range("one of twenty", 0, 19, INDEX, shot -> most.shot(shot, 0));
        RayLayers none = new RayLayers();
        t.refused("none", 0, -1, INDEX, shot -> none.shot(shot, 0));
        t.dueIndex("shot 0 of none", () -> none.shot(0, 0));
        t.says(9, "what: 0 its layer; 1 1 if it goes down, otherwise 0; 2 its slant", "Returns that number.");
        t.due("down", most.shot(18, 0) + " " + most.shot(18, 1) + " " + most.shot(18, 2), "0 1 3999");
        t.due("up", most.shot(19, 0) + " " + most.shot(19, 1) + " " + most.shot(19, 2), "1 0 0");
        t.says(9, "Throws IllegalArgumentException if what is out of range");
        t.range("what", 0, 2, ARGUMENT, what -> most.shot(0, what));
    }

    private void path() {
        t.says(10, "shot: number of a shot", "Throws IndexOutOfBoundsException if there is no such shot");
        RayLayers rays = Check.of("layer 1250 thick 100;layer 1500 thick 60 loss 2;bottom mirror 0;shot 0 down 750;shot 0 up 750;shot 1 up 1300;");
        t.range("one of three", 0, 2, INDEX, shot -> rays.path(shot, 0));
        t.dueIndex("shot 0 of none", () -> new RayLayers().path(0, 0));
        t.says(10, "what: 0 legs; 1 its end; 2 the sum of shifts; 3 of lengths; 4 of times; 5 the power at its end, 0 if it cannot begin; "
                + "6 total reflections; 7 mirrorings (also one by which the power is 0); 8 crossings from layer to layer; "
                + "9 the deepest layer that it crosses, NONE without legs", "Returns that number of its path.");
        t.due("a mirroring by which the power is 0", path(rays, 0), "2 2 109 194 259 0 0 1 1 1");
        t.due("a single leg", path(rays, 1), "1 0 75 125 156 1000000 0 0 0 0");
        rays.setMirror(1);
        t.due("a mirroring of 1 percent", path(rays, 0), "4 0 218 388 518 9834 0 1 2 1");
        rays.turn(2, 1500);
        t.due("it cannot begin", path(rays, 2), "0 4 0 0 0 0 0 0 0 -1");
        rays.removeLayer(1);
        t.due("its layer does not exist", path(rays, 2), "0 4 0 0 0 0 0 0 0 -1");
        RayLayers deep = Check.of("layer1000thick1;".repeat(10) + "shot 0 down 0;shot 9 up 0;shot 9 down 0;shot 0 up 0;");
        t.due("the deepest of all downwards", deep.path(0, 9), 9);
        t.due("the deepest of all upwards", deep.path(1, 9), 9);
        t.due("the last one alone", deep.path(2, 9), 9);
        t.due("the first one alone", deep.path(3, 9), 0);
        t.due("the most crossings one way", deep.path(0, 8) * 10 + deep.path(1, 8), 99);
        t.says(10, "Throws IllegalArgumentException if what is out of range");
        t.range("what", 0, 9, ARGUMENT, what -> rays.path(0, what));
        t.refused("what, where it cannot begin", 0, 9, ARGUMENT, what -> rays.path(2, what));
    }

    private void leg() {
        t.says(11, "shot: number of a shot", "leg: number of a leg, from 0", "Throws IndexOutOfBoundsException if there is no such shot or leg");
        RayLayers rays = Check.of("layer 1200 thick 10;shot 0 down 1000;shot 0 down 0;shot 0 up 0;");
        t.range("one of three shots", 0, 2, INDEX, shot -> rays.leg(shot, 0, 0));
        t.range("one of sixty legs", 0, 59, INDEX, leg -> rays.leg(0, leg, 0));
        t.range("the only leg", 0, 0, INDEX, leg -> rays.leg(1, leg, 0));
        rays.turn(2, 1200);
        t.refused("no leg", 0, -1, INDEX, leg -> rays.leg(2, leg, 0));
        t.dueIndex("leg 0 of none", () -> rays.leg(2, 0, 0));
        t.says(11, "what: 0 its layer; 1 1 if it goes down, otherwise 0; 2 its shift; 3 its length; 4 its time; "
                + "5 the power by this leg, ahead of what happens behind it;", "Returns that number.");
        RayLayers two = Check.of("layer 1250 thick 100;layer 1500 thick 60 loss 2;bottom mirror 50;shot 0 down 750;");
        int[][] due = {{0, 1, 75, 125, 156, 1000000, 0}, {1, 1, 34, 69, 103, 991600, 2}, {1, 0, 34, 69, 103, 495732, 0}, {0, 0, 75, 125, 156, 491636, 3}};
        for (int leg = 0; leg < 4; leg++) {
            for (int what = 0; what <= 6; what++) {
                t.due("leg " + leg + ", " + what, two.leg(0, leg, what), due[leg][what]);
            }
        }
        t.says(11, "6 what happens behind it: 0 the ray passes; 1 a total reflection; 2 a mirroring; 3 it is out at the top; "
                + "4 out at the bottom; 5 absorbed, by this leg or by the mirroring behind it; 6 trapped");
        t.due("it is reflected, and trapped behind the last one", rays.leg(0, 0, 6) * 10 + rays.leg(0, 59, 6), 16);
        t.due("out at the bottom", rays.leg(1, 0, 6), 4);
        t.due("absorbed by the leg", one(1000, 880, 50, "shot 0 up 999;").leg(0, 0, 6), 5);
        t.due("not quite absorbed by the leg", one(1000, 879, 50, "shot 0 up 999;").leg(0, 0, 6), 3);
        RayLayers mirror = one(1000, 1, 0, "bottom mirror 0;shot 0 down 0;");
        t.due("absorbed by the mirroring", mirror.leg(0, 0, 6) * 10000000 + mirror.leg(0, 0, 5), 51000000);
        mirror.setMirror(1);
        t.due("not quite absorbed by the mirroring", mirror.leg(0, 0, 6), 2);
        t.says(11, "Throws IllegalArgumentException if what is out of range");
        t.range("what", 0, 6, ARGUMENT, what -> rays.leg(0, 0, what));
        t.range("what of the last leg", 0, 6, ARGUMENT, what -> rays.leg(0, 59, what));
    }

    /** A path whose legs end at 156, 259, 362 and 518; a shot without legs; a trapped one of 60 legs of 21. */
    private static RayLayers timed() {
        RayLayers rays = Check.of("layer 1250 thick 100;layer 1500 thick 60 loss 2;bottom mirror 50;shot 0 down 750;shot 1 up 1400;shot 1 up 1;");
        rays.turn(1, 1500);
        return rays;
    }

    private static RayLayers trapped() {
        return one(1200, 10, 0, "shot 0 down 1000;");
    }

    private void timesOf(int promise, String name, int without, Check.CallWith call, Check.CallWith ofShot) {
        t.says(promise, "shot: number of a shot", "Throws IndexOutOfBoundsException if there is no such shot");
        t.range(name + " of one of three", 0, 2, INDEX, ofShot);
        t.says(promise, "time: 0 or more", "Throws IllegalArgumentException if time is below 0");
        t.range(name, 0, Integer.MAX_VALUE, ARGUMENT, call);
        t.due(name + " of a shot without legs", ofShot.answer(1), without);
    }

    private void legAt() {
        RayLayers rays = timed();
        timesOf(12, "legAt", -1, time -> rays.legAt(0, time), shot -> rays.legAt(shot, 0));
        t.dueIndex("shot 0 of none", () -> new RayLayers().legAt(0, 0));
        t.dueArgument("time -1 without legs", () -> rays.legAt(1, -1));
        t.says(12, "Returns the number of the leg on which it is at this time: the first one at whose end the sum of times is greater; NONE if there is none.");
        int[][] due = {{0, 0}, {1, 0}, {155, 0}, {156, 1}, {157, 1}, {258, 1}, {259, 2}, {260, 2}, {361, 2}, {362, 3}, {363, 3},
                {516, 3}, {517, 3}, {518, -1}, {519, -1}, {Integer.MAX_VALUE, -1}};
        for (int[] time : due) {
            t.due("legAt(" + time[0] + ")", rays.legAt(0, time[0]), time[1]);
        }
        int[][] sixty = {{0, 0}, {20, 0}, {21, 1}, {1238, 58}, {1239, 59}, {1259, 59}, {1260, -1}};
        for (int[] time : sixty) {
            t.due("trapped: legAt(" + time[0] + ")", trapped().legAt(0, time[0]), time[1]);
        }
    }

    private void shiftAt() {
        RayLayers rays = timed();
        timesOf(13, "shiftAt", 0, time -> rays.shiftAt(0, time), shot -> rays.shiftAt(shot, 0));
        t.dueArgument("time -1 without legs", () -> rays.shiftAt(1, -1));
        t.says(13, "Returns the shift at this time: that of all legs ahead of legAt(), plus the shift of this leg times the time on it, divided by its time; "
                + "without such a leg the sum of all.");
        // 75 * 2 / 156 is 0, 75 * 3 / 156 is 1, 75 * 155 / 156 is 74; 34 * 3 / 103 is 0, 34 * 4 / 103 is 1.
        int[][] due = {{0, 0}, {2, 0}, {3, 1}, {155, 74}, {156, 75}, {159, 75}, {160, 76}, {258, 108}, {259, 109}, {361, 142}, {362, 143},
                {364, 143}, {365, 144}, {517, 217}, {518, 218}, {519, 218}, {Integer.MAX_VALUE, 218}};
        for (int[] time : due) {
            t.due("shiftAt(" + time[0] + ")", rays.shiftAt(0, time[0]), time[1]);
        }
        t.due("without legs, late", rays.shiftAt(1, Integer.MAX_VALUE), 0);
        t.due("straight", Check.of("layer 1000 thick 9;shot 0 up 0;").shiftAt(0, 5), 0);
        RayLayers far = one(4000, 999, 0, "shot 0 down 3999;");
        // 44887 * 179591 is beyond an int.
        t.due("a product beyond an int", far.shiftAt(0, 179591), 44886);
        t.due("at the end of a leg", far.shiftAt(0, 179592), 44887);
        t.due("just ahead of the end of all", far.shiftAt(0, 10775519), 2693219);
        t.due("at the end of all", far.shiftAt(0, 10775520), 2693220);
    }

    private void depthAt() {
        RayLayers rays = timed();
        timesOf(14, "depthAt", -1, time -> rays.depthAt(0, time), shot -> rays.depthAt(shot, 0));
        t.dueArgument("time -1 without legs", () -> rays.depthAt(1, -1));
        t.says(14, "Returns the depth at this time, from the top of the first layer: on a leg the thickness of its layer times the time on it, divided by its time, "
                + "from the side at which the leg begins; NONE without legAt().");
        // 100 * 1 / 156 is 0, 100 * 2 / 156 is 1; upwards 60 * 1 / 103 is 0, 60 * 2 / 103 is 1.
        int[][] due = {{0, 0}, {1, 0}, {2, 1}, {155, 99}, {156, 100}, {157, 100}, {158, 101}, {258, 159}, {259, 160}, {260, 160}, {261, 159},
                {361, 101}, {362, 100}, {363, 100}, {364, 99}, {517, 1}, {518, -1}, {Integer.MAX_VALUE, -1}};
        for (int[] time : due) {
            t.due("depthAt(" + time[0] + ")", rays.depthAt(0, time[0]), time[1]);
        }
        RayLayers most = Check.of("layer4000thick999;".repeat(10) + "outside1000;bottom open 1000;shot 9 down 3999;shot 0 up 3999;");
        t.due("just ahead of the greatest depth", most.depthAt(0, 179591), 9989);
        t.due("the greatest depth", most.depthAt(0, 179592), 9990);
        t.due("just ahead of depth 0", most.depthAt(1, 179591), 1);
        t.due("depth 0", most.depthAt(1, 179592), 0);
        t.due("the product does not wrap", one(4000, 999, 0, "shot 0 up 3999;").depthAt(0, 150000), 165);
    }

    private void critical() {
        t.says(15, "layer: number of a layer", "Throws IndexOutOfBoundsException if there is no such layer");
        RayLayers most = Check.of(MOST);
        t.range("one of ten, down", 0, 9, INDEX, layer -> most.critical(layer, true));
        t.range("one of ten, up", 0, 9, INDEX, layer -> most.critical(layer, false));
        t.says(15, "down: whether the lower side is meant, otherwise the upper one",
                "Returns the least slant of a ray in this layer that is totally reflected at this side; NONE if none is (also at a mirror).");
        RayLayers rays = Check.of("layer 1001 thick 1;layer 1002 thick 1;layer 1002 thick 1;layer 4000 thick 1;");
        t.due("to the least index above", rays.critical(0, false), 1000);
        t.due("to an index greater by 1", rays.critical(0, true), -1);
        t.due("to an index less by 1", rays.critical(1, false), 1001);
        t.due("to the same index", rays.critical(1, true), -1);
        t.due("to the greatest index", rays.critical(2, true), -1);
        t.due("from the greatest index", rays.critical(3, false), 1002);
        t.due("to the least index below", rays.critical(3, true), 1000);
        rays.setOpen(3999);
        t.due("to the bottom, less by 1", rays.critical(3, true), 3999);
        t.due("it is reflected", rays.endOf(3, true, 3999) != 1, true);
        t.due("a slant less by 1 is not", rays.endOf(3, true, 3998), 1);
        rays.setOpen(4000);
        t.due("to the same bottom", rays.critical(3, true), -1);
        for (int percents : new int[] {0, 100}) {
            rays.setMirror(percents);
            t.due("to a mirror of " + percents, rays.critical(3, true), -1);
            t.due("above a mirror", rays.critical(3, false), 1002);
        }
        rays.setOutside(1001);
        t.due("to the same outside", rays.critical(0, false), -1);
        rays.setLayer(0, 0, 1000);
        rays.setOutside(1000);
        t.due("the least index among the least", rays.critical(0, false), -1);
    }
}
