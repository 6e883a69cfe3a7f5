/** Promises 7 to 15 and 25 to 35: layers, shots, their paths, and what they have to do with one another. */
public final class PathTest {
    private static final Check T = new Check();
    /** Slants 750 and 900 have whole roots in these layers: 1000 and 1200. */
    private static final String TWO = "layer 1250 thick 100;layer 1500 thick 60 loss 2;";

    private PathTest() {
    }

    public static void main(String[] args) {
        promises7To9();
        promise10();
        endsOfPaths();
        promise11();
        promises12To14();
        promise15();
        promise25();
        promises26And27();
        promise28();
        promise29();
        promises30And31();
        promises32And33();
        promises34And35();
        T.close("PathTest");
    }

    private static void promises7To9() {
        RayLayers rays = Check.of(TWO + "outside 1100;bottom mirror 70;shot 1 up 900;shot 0 down 3;");
        int[] properties = {2, 1100, 1, 70, 2, 160};
        for (int what = 0; what < properties.length; what++) {
            T.due("7 property " + what, rays.property(what), properties[what]);
        }
        T.dueArgument("7 property(-1)", () -> rays.property(-1));
        T.dueArgument("7 property(6)", () -> rays.property(6));
        T.due("7 open", Check.of(TWO + "bottom open 3000;").property(2), 0);
        T.due("7 index of the bottom", Check.of(TWO + "bottom open 3000;").property(3), 3000);
        int[][] layers = {{1250, 100, 0, 0}, {1500, 60, 2, 100}};
        int[][] shots = {{1, 0, 900}, {0, 1, 3}};
        for (int number = 0; number < 2; number++) {
            int of = number;
            for (int what = 0; what < 4; what++) {
                T.due("8 layer " + of + ", " + what, rays.layer(of, what), layers[of][what]);
            }
            for (int what = 0; what < 3; what++) {
                T.due("9 shot " + of + ", " + what, rays.shot(of, what), shots[of][what]);
            }
            T.dueArgument("8 what 4", () -> rays.layer(of, 4));
            T.dueArgument("8 what -1", () -> rays.layer(of, -1));
            T.dueArgument("9 what 3", () -> rays.shot(of, 3));
            T.dueArgument("9 what -1", () -> rays.shot(of, -1));
        }
        T.dueIndex("8 layer 2", () -> rays.layer(2, 0));
        T.dueIndex("8 layer -1, what 4", () -> rays.layer(-1, 4));
        T.dueIndex("9 shot 2", () -> rays.shot(2, 0));
        T.dueIndex("9 shot -1, what 3", () -> rays.shot(-1, 3));
    }

    private static void duePath(String text, int... numbers) {
        RayLayers rays = Check.of(text);
        for (int what = 0; what < numbers.length; what++) {
            T.due("10 path " + what + " of " + text, rays.path(0, what), numbers[what]);
        }
    }

    private static void promise10() {
        // Down: 100 * 750 / 1000 = 75, 125, 125 * 1250 / 1000 = 156; the root of 1500^2 - 750^2 is 1299:
        // 60 * 750 / 1299 = 34, 60 * 1500 / 1299 = 69, 103. The crossing loses 1000000 * 250^2 / 2750^2 = 8264,
        // the leg then 991736 * 2 * 69 / 1000000 = 136. Out at the bottom without another loss.
        duePath(TWO + "shot 0 down 750;", 2, 1, 109, 194, 259, 991600, 0, 0, 1, 1);
        // Up from layer 1: 1000000 * 2 * 69 / 1000000 = 138; then 999862 * 250^2 / 2750^2 = 8263.
        duePath(TWO + "shot 1 up 750;", 2, 0, 109, 194, 259, 991599, 0, 0, 1, 1);
        duePath(TWO + "shot 0 up 750;", 1, 0, 75, 125, 156, 1000000, 0, 0, 0, 0);
        RayLayers rays = Check.of(TWO + "shot 1 up 1300;");
        rays.setLayer(1, 0, 1300);
        for (int what = 0; what < 9; what++) {
            T.due("10 it cannot begin " + what, rays.path(0, what), what == 1 ? 4 : 0);
        }
        T.due("10 without legs", rays.path(0, 9), -1);
        T.dueIndex("10 shot 1", () -> rays.path(1, 0));
        T.dueIndex("10 shot -1, what 10", () -> rays.path(-1, 10));
        T.dueArgument("10 what 10", () -> rays.path(0, 10));
        T.dueArgument("10 what -1", () -> rays.path(0, -1));
    }

    private static void endsOfPaths() {
        // A mirror: 1000000 * 50 / 100. Legs of 80 and 120, back to the top.
        duePath("layer 1000 thick 80;bottom mirror 50;shot 0 down 0;", 2, 0, 0, 160, 160, 500000, 0, 1, 0, 0);
        // A mirror of 0 percents absorbs, and counts as a mirroring.
        duePath("layer 1000 thick 80;bottom mirror 0;shot 0 down 0;", 1, 2, 0, 80, 80, 0, 0, 1, 0, 0);
        // 80 * 1000 / 600 = 133, 80 * 800 / 600 = 106; an index that is not above the slant reflects.
        duePath("layer 1000 thick 80;shot 0 down 800;", 1, 1, 106, 133, 133, 1000000, 0, 0, 0, 0);
        // 10 * 1200 / 663 = 18, 10 * 1000 / 663 = 15, 18 * 1200 / 1000 = 21: 60 legs between two reflections.
        duePath("layer 1200 thick 10;shot 0 down 1000;", 60, 3, 900, 1080, 1260, 1000000, 59, 0, 0, 0);
        // Reflected below only, out at the top.
        duePath("layer 1200 thick 10;outside 1001;shot 0 down 1000;", 2, 0, 30, 36, 42, 1000000, 1, 0, 0, 0);
        // 999 * 1000 * 99 / 1000000 = 98901 of 1000000 a leg, 999 long.
        duePath("layer 1000 thick 999 loss 99;shot 0 down 0;", 1, 1, 0, 999, 999, 901099, 0, 0, 0, 0);
        // A leg as long as 999 * 4000 / 89 = 44898 loses more than all: 1000000 * 99 * 44898 / 1000000.
        duePath("layer 4000 thick 999 loss 99;shot 0 down 3999;", 1, 2, 44887, 44898, 179592, 0, 0, 0, 0, 0);
        // The mirror halves 1000000 nineteen times to 1; by the twentieth mirroring, behind leg 39, it is 0.
        duePath("layer 1200 thick 10;bottom mirror 50;shot 0 down 1000;", 39, 2, 585, 702, 819, 0, 19, 20, 0, 0);
        // Behind the 60th leg nothing happens: 30 legs down from the bottom at most 30 mirrorings, the last one not done.
        duePath("layer 1200 thick 10;bottom mirror 100;shot 0 up 1000;", 60, 3, 900, 1080, 1260, 1000000, 30, 29, 0, 0);
        // Out at the 20th leg of ten layers, down and up, with 18 crossings and one mirroring.
        duePath(Check.times("layer 1000 thick 1;", 10) + "bottom mirror 100;shot 0 down 0;", 20, 0, 0, 20, 20, 1000000, 0, 1, 18, 9);
    }

    private static void promise11() {
        RayLayers rays = Check.of(TWO + "bottom mirror 50;outside 1400;shot 0 down 750;shot 1 up 1300;shot 0 up 1200;");
        T.due("11 layers", Check.legs(rays, 0, 0), "[0, 1, 1, 0]");
        T.due("11 directions", Check.legs(rays, 0, 1), "[1, 1, 0, 0]");
        T.due("11 shifts", Check.legs(rays, 0, 2), "[75, 34, 34, 75]");
        T.due("11 lengths", Check.legs(rays, 0, 3), "[125, 69, 69, 125]");
        T.due("11 times", Check.legs(rays, 0, 4), "[156, 103, 103, 156]");
        // 495800 by the mirror, less 68 by the third leg, less 495732 * 250^2 / 2750^2 = 4096 by the crossing.
        T.due("11 powers", Check.legs(rays, 0, 5), "[1000000, 991600, 495732, 491636]");
        T.due("11 events", Check.legs(rays, 0, 6), "[0, 2, 0, 3]");
        T.due("11 a total reflection", rays.leg(1, 0, 6), 1);
        T.due("11 out at the bottom", Check.of("layer 1000 thick 1;shot 0 down 0;").leg(0, 0, 6), 4);
        RayLayers absorbed = Check.of("layer 1000 thick 1;bottom mirror 0;shot 0 down 0;");
        T.due("11 absorbed by the mirroring", absorbed.leg(0, 0, 6), 5);
        T.due("11 its power by the leg", absorbed.leg(0, 0, 5), 1000000);
        RayLayers lost = Check.of("layer 4000 thick 999 loss 99;shot 0 down 3999;");
        T.due("11 absorbed by the leg", lost.leg(0, 0, 6), 5);
        T.due("11 no power by the leg", lost.leg(0, 0, 5), 0);
        RayLayers trapped = Check.of("layer 1200 thick 10;shot 0 down 1000;");
        T.due("11 the 59th leg", trapped.leg(0, 58, 6), 1);
        T.due("11 trapped", trapped.leg(0, 59, 6), 6);
        T.dueIndex("11 leg 60", () -> trapped.leg(0, 60, 0));
        T.dueIndex("11 leg 4", () -> rays.leg(0, 4, 0));
        T.dueIndex("11 leg -1, what 7", () -> rays.leg(0, -1, 7));
        T.dueIndex("11 shot 3", () -> rays.leg(3, 0, 0));
        T.dueIndex("11 shot -1", () -> rays.leg(-1, 0, 0));
        T.dueArgument("11 what 7", () -> rays.leg(0, 0, 7));
        T.dueArgument("11 what -1", () -> rays.leg(0, 0, -1));
        trapped.setLayer(0, 0, 1000);
        T.dueIndex("11 without legs", () -> trapped.leg(0, 0, 0));
    }

    private static void promises12To14() {
        // Leg ends at 156, 259, 362 and 518.
        RayLayers rays = Check.of(TWO + "bottom mirror 50;shot 0 down 750;shot 1 up 1400;");
        int[][] at = {{0, 0, 0, 0}, {100, 0, 48, 64}, {155, 0, 74, 99}, {156, 1, 75, 100}, {258, 1, 108, 159},
                {259, 2, 109, 160}, {300, 2, 122, 137}, {361, 2, 142, 101}, {362, 3, 143, 100}, {440, 3, 180, 50},
                {517, 3, 217, 1}, {518, -1, 218, -1}, {Integer.MAX_VALUE, -1, 218, -1}};
        for (int[] due : at) {
            T.due("12 legAt " + due[0], rays.legAt(0, due[0]), due[1]);
            T.due("13 shiftAt " + due[0], rays.shiftAt(0, due[0]), due[2]);
            T.due("14 depthAt " + due[0], rays.depthAt(0, due[0]), due[3]);
        }
        rays.setLayer(1, 0, 1400);
        T.due("12 without legs", rays.legAt(1, 0), -1);
        T.due("13 without legs", rays.shiftAt(1, 5), 0);
        T.due("14 without legs", rays.depthAt(1, 0), -1);
        T.dueIndex("12 shot 2", () -> rays.legAt(2, -1));
        T.dueIndex("13 shot -1", () -> rays.shiftAt(-1, -1));
        T.dueIndex("14 shot 2", () -> rays.depthAt(2, -1));
        T.dueArgument("12 time -1", () -> rays.legAt(0, -1));
        T.dueArgument("13 time -1", () -> rays.shiftAt(0, -1));
        T.dueArgument("14 time -1", () -> rays.depthAt(0, -1));
        // 44887 * 150000 / 179592 = 37490, beyond an int on the way.
        RayLayers far = Check.of("layer 4000 thick 999;shot 0 up 3999;");
        T.due("13 a long leg", far.shiftAt(0, 150000), 37490);
        T.due("14 a long leg", far.depthAt(0, 150000), 165);
    }

    private static void promise15() {
        RayLayers rays = Check.of("layer 1500 thick 1;layer 1300 thick 1;layer 1300 thick 1;outside 1499;bottom open 1300;");
        T.due("15 upwards", rays.critical(0, false), 1499);
        T.due("15 downwards", rays.critical(0, true), 1300);
        T.due("15 to a greater index", rays.critical(1, false), -1);
        T.due("15 to the same index", rays.critical(1, true), -1);
        T.due("15 to the same bottom", rays.critical(2, true), -1);
        rays.setOpen(1200);
        T.due("15 to the bottom", rays.critical(2, true), 1200);
        rays.setMirror(100);
        T.due("15 to a mirror", rays.critical(2, true), -1);
        rays.setOutside(1500);
        T.due("15 to the same outside", rays.critical(0, false), -1);
        RayLayers four = Check.of("layer 1100 thick 1;layer 1200 thick 1;layer 1900 thick 1;layer 1300 thick 1;layer 1400 thick 1;");
        T.due("15 the layer just above", four.critical(2, false), 1200);
        T.due("15 the layer just below", four.critical(2, true), 1300);
        T.dueIndex("15 layer 3", () -> rays.critical(3, true));
        T.dueIndex("15 layer -1", () -> rays.critical(-1, false));
    }

    private static final String FIVE_ENDS = "layer 2000 thick 10;layer 1500 thick 10 loss 99;"
            + "shot 0 up 0;shot 0 down 0;shot 0 up 999;shot 0 up 1999;shot 1 up 1400;shot 1 down 0;";

    private static void promise25() {
        RayLayers rays = Check.of(FIVE_ENDS);
        rays.setLayer(1, 1, 999);
        T.due("25 one more shot, which loses all on its first leg", rays.shoot(1, false, 1498), 6);
        T.due("25 top", rays.count(0), 2);
        T.due("25 bottom", rays.count(1), 2);
        T.due("25 absorbed", rays.count(2), 1);
        T.due("25 trapped", rays.count(3), 2);
        T.due("25 all begin", rays.count(4), 0);
        rays.removeLayer(1);
        T.due("25 three cannot begin", rays.count(4), 3);
        T.dueArgument("25 end 5", () -> rays.count(5));
        T.dueArgument("25 end -1", () -> rays.count(-1));
    }

    private static void promises26And27() {
        RayLayers rays = Check.of("layer 1000 thick 10;layer 2000 thick 10 loss 99;shot 1 up 1500;");
        T.due("26 none is out", rays.first(), -1);
        T.due("27 none is out", rays.strongest(), -1);
        rays.shoot(1, true, 0);
        T.due("26 out at the bottom", rays.first(), 1);
        T.due("27 out at the bottom", rays.strongest(), 1);
        rays.shoot(0, true, 0);
        T.due("26 a longer time", rays.first(), 1);
        T.due("27 less power", rays.strongest(), 1);
        rays.shoot(0, false, 0);
        rays.shoot(0, false, 0);
        T.due("26 the lowest of two", rays.first(), 3);
        T.due("27 the lowest of two", rays.strongest(), 3);
        T.due("26 no shots", new RayLayers().first(), -1);
        T.due("27 no shots", new RayLayers().strongest(), -1);
        RayLayers best = Check.of(TWO + "shot 0 up 0;shot 1 up 0;");
        T.due("26 the very first", best.first(), 0);
        T.due("27 the very first", best.strongest(), 0);
        rays.setLayer(0, 1, 900);
        T.due("26 a thick layer", rays.first(), 1);
        T.due("27 it loses nothing", rays.strongest(), 3);
    }

    private static void promise28() {
        RayLayers rays = Check.of(TWO + "shot 0 down 0;shot 0 down 750;shot 0 up 5;shot 1 up 1450;shot 1 up 1;shot 0 down 1240;");
        T.due("28 all legs", rays.alike(0, 1), 2);
        T.due("28 other directions", rays.alike(0, 2), 0);
        T.due("28 other layers", rays.alike(0, 3), 0);
        T.due("28 the first", rays.alike(3, 4), 1);
        T.due("28 the other way round", rays.alike(4, 3), 1);
        T.due("28 one is longer", rays.alike(5, 0), 2);
        rays.setLayer(0, 0, 1000);
        T.due("28 without legs", rays.alike(5, 0), 0);
        T.dueIndex("28 shot 6", () -> rays.alike(0, 6));
        T.dueIndex("28 shots 6 and 6", () -> rays.alike(6, 6));
        T.dueIndex("28 shot -1", () -> rays.alike(-1, 0));
        T.dueArgument("28 both the same", () -> rays.alike(2, 2));
    }

    private static void promise29() {
        RayLayers rays = Check.of("layer 1000 thick 30;layer 1000 thick 40;bottom mirror 100;"
                + "shot 0 down 0;shot 1 up 0;shot 0 up 0;shot 1 down 600;shot 1 up 999;");
        T.due("29 from 0 on", rays.together(0, 2), 0);
        // Shot 0 is below from 30 on, shot 1 above from 40 on.
        T.due("29 at the end of a leg", rays.together(0, 1), 30);
        T.due("29 the other way round", rays.together(1, 0), 30);
        // Shot 2 is out at 30; shot 1 comes only at 40.
        T.due("29 one is out", rays.together(1, 2), -1);
        T.due("29 just when one is out", Check.of("layer 1000 thick 30;layer 1000 thick 30;shot 0 up 0;shot 1 up 0;").together(0, 1), -1);
        rays.setLayer(0, 0, 1001);
        rays.shoot(0, false, 1000);
        rays.setLayer(0, 0, 1000);
        T.due("29 without legs", rays.together(0, 5), -1);
        T.due("29 the other without legs", rays.together(5, 0), -1);
        T.dueIndex("29 shot 6", () -> rays.together(6, 6));
        T.dueIndex("29 shot -1", () -> rays.together(0, -1));
        T.dueArgument("29 both the same", () -> rays.together(0, 0));
    }

    private static void promises30And31() {
        RayLayers rays = Check.of(TWO + "shot 0 up 0;shot 1 up 0;");
        T.due("30 above", rays.legsIn(0), 2);
        T.due("30 below", rays.legsIn(1), 1);
        T.due("31 above", rays.busiest(), 0);
        rays.shoot(1, true, 0);
        T.due("31 the lowest of two", rays.busiest(), 0);
        rays.shoot(1, true, 0);
        T.due("30 below then", rays.legsIn(1), 3);
        T.due("31 below", rays.busiest(), 1);
        T.dueIndex("30 layer 2", () -> rays.legsIn(2));
        T.dueIndex("30 layer -1", () -> rays.legsIn(-1));
        T.due("31 no shots", Check.of(TWO).busiest(), -1);
        T.due("31 a single leg", Check.of(TWO + "shot 1 down 0;").busiest(), 1);
        RayLayers none = Check.of("layer 1500 thick 1;layer 1000 thick 1;shot 0 down 1200;");
        none.swapLayers(0, 1);
        T.due("31 no legs", none.busiest(), -1);
        T.due("30 no legs", none.legsIn(0), 0);
    }

    private static void promises32And33() {
        T.due("32 one layer", new RayLayers().meanIndex(), 1500.0);
        T.due("32 two layers", Check.of(TWO).meanIndex(), 215000.0 / 160.0);
        T.due("32 not whole", Check.of("layer 1000 thick 1;layer 1001 thick 2;").meanIndex(), 3002.0 / 3.0);
        T.due("32 all", Check.of(Check.times("layer 4000 thick 999;", 10)).meanIndex(), 4000.0);
        RayLayers rays = Check.of(TWO + "shot 0 down 750;shot 0 up 0;shot 1 up 1450;");
        T.due("33 less than all", rays.share(0), 991600.0f / 1000000.0f);
        T.due("33 all", rays.share(1), 1.0f);
        rays.setLayer(1, 0, 1400);
        T.due("33 it cannot begin", rays.share(2), 0.0f);
        T.dueIndex("33 shot 3", () -> rays.share(3));
        T.dueIndex("33 shot -1", () -> rays.share(-1));
    }

    private static void promises34And35() {
        RayLayers rays = Check.of(TWO + "shot 0 down 900;shot 1 up 1300;");
        T.due("34 as it is", rays.endIf(0, 0, 1250), 1);
        T.due("34 with a lower index", rays.endIf(0, 0, 1000), 1);
        rays.turn(0, 1100);
        T.due("34 it could not begin", rays.endIf(0, 0, 1100), 4);
        T.due("34 it could begin", rays.endIf(0, 0, 1101), 3);
        T.due("34 another layer", rays.endIf(1, 0, 4000), 3);
        T.due("34 changes nothing", rays.layer(0, 0), 1250);
        T.due("34 undoCount", rays.undoCount(), 2);
        T.dueIndex("34 shot 2", () -> rays.endIf(2, 0, 999));
        T.dueIndex("34 layer 2", () -> rays.endIf(0, 2, 999));
        T.dueIndex("34 layer -1", () -> rays.endIf(0, -1, 1000));
        T.dueArgument("34 index 999", () -> rays.endIf(0, 0, 999));
        T.dueArgument("34 index 4001", () -> rays.endIf(0, 0, 4001));
        RayLayers lossy = Check.of("layer 1000 thick 100 loss 9;layer 1000 thick 100 loss 20;layer 1000 thick 100 loss 10;shot 0 down 0;shot 2 down 0;");
        T.due("35 the greatest loss", lossy.bestWithout(0), 1);
        T.due("35 it could not begin without any", lossy.bestWithout(1), 0);
        T.due("35 changes nothing", lossy.property(0), 3);
        T.due("35 undoCount", lossy.undoCount(), 1);
        lossy.setLayer(0, 2, 20);
        T.due("35 the lowest of two", lossy.bestWithout(0), 0);
        T.due("35 of two layers", Check.of("layer 1000 thick 9;layer 1000 thick 9 loss 9;shot 0 down 0;").bestWithout(0), 1);
        T.due("35 one layer a time", Check.of("layer 1000 thick 100 loss 9;layer 1000 thick 100 loss 10;"
                + "layer 1000 thick 100 loss 20;shot 0 down 0;").bestWithout(0), 2);
        T.due("35 one layer", Check.of("layer 1000 thick 1;shot 0 up 0;").bestWithout(0), -1);
        T.dueIndex("35 shot 2", () -> lossy.bestWithout(2));
        T.dueIndex("35 shot -1", () -> lossy.bestWithout(-1));
    }
}
