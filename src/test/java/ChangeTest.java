/** Promises 36 to 49: changes of layers and shots, slots, and undoing. */
public final class ChangeTest {
    private static final Check T = new Check();
    private static final String THREE = "layer 1100 thick 10;layer 1200 thick 20 loss 2;layer 1300 thick 30;shot 2 up 5;shot 0 down 7;";

    private ChangeTest() {
    }

    public static void main(String[] args) {
        promise36();
        promise37();
        promise38();
        promise39();
        promises40To42();
        promise43();
        promise44();
        promise45();
        promises46And47();
        promises48And49();
        whatCanBeUndone();
        T.close("ChangeTest");
    }

    private static void promise36() {
        RayLayers rays = Check.of(THREE);
        T.due("36 at the end", rays.addLayer(3, 1000, 1, 0), 4);
        T.due("36 at the top", rays.addLayer(0, 4000, 999, 99), 5);
        T.due("36 between", rays.addLayer(2, 2000, 5, 6), 6);
        T.due("36 the layers", Check.layers(rays), "4000x999/1100x10/2000x5/1200x20/1300x30/1000x1|1000");
        T.due("36 the losses", rays.layer(0, 2) * 10000 + rays.layer(2, 2) * 100 + rays.layer(3, 2), 990602);
        T.due("36 shots keep their layers by numbers", rays.shot(0, 0), 2);
        T.dueIndex("36 at 7", () -> rays.addLayer(7, 0, 0, 0));
        T.dueIndex("36 at -1", () -> rays.addLayer(-1, 1000, 1, 0));
        for (int i = 0; i < 4; i++) {
            T.due("36 up to ten", rays.addLayer(6, 1000, 1, 0), 7 + i);
        }
        T.dueState("36 an 11th", () -> rays.addLayer(0, 1000, 1, 0));
        T.dueState("36 an 11th at the end", () -> rays.addLayer(10, 1000, 1, 0));
        T.dueIndex("36 at 11", () -> rays.addLayer(11, 1000, 1, 0));
        int[][] wrong = {{999, 1, 0}, {4001, 1, 0}, {1000, 0, 0}, {1000, 1000, 0}, {1000, 1, -1}, {1000, 1, 100}};
        for (int[] layer : wrong) {
            T.dueArgument("36 " + layer[0] + ", " + layer[1] + ", " + layer[2], () -> rays.addLayer(0, layer[0], layer[1], layer[2]));
        }
        T.due("36 nothing more is changed", rays.property(0), 10);
        T.due("36 undoCount", rays.undoCount(), 6);
    }

    private static void promise37() {
        RayLayers rays = Check.of(THREE);
        T.dueIndex("37 layer 3", () -> rays.removeLayer(3));
        T.dueIndex("37 layer -1", () -> rays.removeLayer(-1));
        T.due("37 the middle one", rays.removeLayer(1), 2);
        T.due("37 the layers", Check.layers(rays), "1100x10/1300x30|1000");
        T.due("37 shots keep their layers by numbers", rays.shot(0, 0), 2);
        T.due("37 so it cannot begin", rays.path(0, 1), 4);
        T.due("37 the last one", rays.removeLayer(1), 1);
        T.dueState("37 the only one", () -> rays.removeLayer(0));
        T.dueIndex("37 none of that number", () -> rays.removeLayer(1));
        T.due("37 undoCount", rays.undoCount(), 3);
        rays.undo();
        T.due("37 the first one", rays.removeLayer(0), 1);
        T.due("37 the layer", Check.layers(rays), "1300x30|1000");
    }

    private static void promise38() {
        RayLayers rays = Check.of(THREE);
        T.due("38 index", rays.setLayer(1, 0, 4000), 1200);
        T.due("38 thickness", rays.setLayer(1, 1, 999), 20);
        T.due("38 loss", rays.setLayer(1, 2, 99), 2);
        T.due("38 index again", rays.setLayer(1, 0, 1000), 4000);
        T.due("38 thickness again", rays.setLayer(1, 1, 1), 999);
        T.due("38 loss again", rays.setLayer(1, 2, 0), 99);
        T.due("38 the layers", Check.layers(rays), "1100x10/1000x1/1300x30|1000");
        T.dueIndex("38 layer 3", () -> rays.setLayer(3, 3, 0));
        T.dueIndex("38 layer -1", () -> rays.setLayer(-1, 0, 1000));
        int[][] wrong = {{-1, 1}, {3, 1}, {0, 999}, {0, 4001}, {1, 0}, {1, 1000}, {2, -1}, {2, 100}};
        for (int[] value : wrong) {
            T.dueArgument("38 " + value[0] + ", " + value[1], () -> rays.setLayer(0, value[0], value[1]));
        }
        T.due("38 shots stay", rays.property(4), 2);
    }

    private static void promise39() {
        RayLayers rays = Check.of("layer 1500 thick 10;layer 1000 thick 20 loss 9;layer 1300 thick 30;"
                + "shot 0 down 1200;shot 0 up 0;shot 2 down 1100;shot 1 up 0;");
        // Shot 0 was trapped, and cannot begin then; the others keep their ends.
        T.due("39 one other end", rays.swapLayers(0, 1), 1);
        T.due("39 the layers", Check.layers(rays), "1000x20/1500x10/1300x30|1000");
        T.due("39 the losses", rays.layer(0, 2) * 10 + rays.layer(1, 2), 90);
        T.due("39 shots keep their layers by numbers", rays.shot(0, 0), 0);
        T.due("39 back", rays.swapLayers(1, 0), 1);
        T.due("39 two other ends", rays.swapLayers(0, 1) + rays.swapLayers(1, 2), 1);
        T.dueIndex("39 layer 3", () -> rays.swapLayers(0, 3));
        T.dueIndex("39 layers 3 and 3", () -> rays.swapLayers(3, 3));
        T.dueIndex("39 layer -1", () -> rays.swapLayers(-1, 0));
        T.dueArgument("39 both the same", () -> rays.swapLayers(1, 1));
        T.due("39 undoCount", rays.undoCount(), 5);
    }

    private static void promises40To42() {
        RayLayers rays = Check.of(THREE);
        T.due("40 the index before", rays.setOutside(4000), 1000);
        T.due("40 the index", rays.property(1), 4000);
        T.due("40 the index before", rays.setOutside(1000), 4000);
        T.due("41 the index before", rays.setOpen(4000), 1000);
        T.due("41 the index", rays.property(3), 4000);
        T.due("42 it was open", rays.setMirror(0), -1);
        T.due("42 a mirror", rays.property(2), 1);
        T.due("42 its percents", rays.property(3), 0);
        T.due("42 the percents before", rays.setMirror(100), 0);
        T.due("42 the percents before", rays.setMirror(100), 100);
        T.due("41 it was a mirror", rays.setOpen(1000), 5000);
        T.due("41 open", rays.property(2), 0);
        T.due("41 its index", rays.property(3), 1000);
        T.due("41 the index before", rays.setOpen(1000), 1000);
        for (int wrong : new int[] {999, 4001, -1, Integer.MAX_VALUE, Integer.MIN_VALUE}) {
            T.dueArgument("40 " + wrong, () -> rays.setOutside(wrong));
            T.dueArgument("41 " + wrong, () -> rays.setOpen(wrong));
        }
        T.dueArgument("42 -1", () -> rays.setMirror(-1));
        T.dueArgument("42 101", () -> rays.setMirror(101));
        T.due("42 nothing is changed", Check.layers(rays), "1100x10/1200x20/1300x30|1000");
    }

    private static void promise43() {
        RayLayers rays = Check.of(THREE);
        T.due("43 its number", rays.shoot(1, false, 1199), 2);
        T.due("43 its layer", rays.shot(2, 0), 1);
        T.due("43 its direction", rays.shot(2, 1), 0);
        T.due("43 its slant", rays.shot(2, 2), 1199);
        T.due("43 down", rays.shoot(0, true, 0), 3);
        T.due("43 its direction down", rays.shot(3, 1), 1);
        T.dueArgument("43 not less than the index", () -> rays.shoot(1, true, 1200));
        T.dueArgument("43 slant -1", () -> rays.shoot(1, true, -1));
        rays.setLayer(0, 0, 4000);
        T.dueArgument("43 slant 4000", () -> rays.shoot(0, true, 4000));
        T.dueIndex("43 layer 3", () -> rays.shoot(3, true, 4000));
        T.dueIndex("43 layer -1", () -> rays.shoot(-1, true, 0));
        T.due("43 the greatest slant", rays.shoot(0, true, 3999), 4);
        for (int shot = 5; shot < 20; shot++) {
            T.due("43 up to twenty", rays.shoot(2, true, shot), shot);
        }
        T.dueState("43 a 21st", () -> rays.shoot(0, true, 0));
        T.dueArgument("43 a 21st, too slant", () -> rays.shoot(2, true, 1300));
        T.dueIndex("43 a 21st, no layer", () -> rays.shoot(3, true, 0));
        T.due("43 there are twenty", rays.property(4), 20);
        T.due("43 the last one", rays.shot(19, 2), 19);
    }

    private static void promise44() {
        RayLayers rays = Check.of("layer 1500 thick 10;outside 1200;shot 0 down 5;");
        T.due("44 straight", rays.turn(0, 0), 1);
        T.due("44 the bottom", rays.turn(0, 999), 1);
        T.due("44 the top", rays.turn(0, 1000), 0);
        T.due("44 trapped", rays.turn(0, 1499), 3);
        T.due("44 it cannot begin", rays.turn(0, 3999), 4);
        T.due("44 its slant", rays.shot(0, 2), 3999);
        T.due("44 its layer", rays.shot(0, 0) * 10 + rays.shot(0, 1), 1);
        T.dueArgument("44 slant 4000", () -> rays.turn(0, 4000));
        T.dueArgument("44 slant -1", () -> rays.turn(0, -1));
        T.dueIndex("44 shot 1", () -> rays.turn(1, 4000));
        T.dueIndex("44 shot -1", () -> rays.turn(-1, 0));
        T.due("44 undoCount", rays.undoCount(), 6);
    }

    private static void promise45() {
        RayLayers rays = Check.of(THREE + "shot 1 up 9;");
        T.due("45 the first one", rays.dropShot(0), 2);
        T.due("45 those behind it", rays.shot(0, 2) * 100 + rays.shot(1, 2), 709);
        T.due("45 their layers", rays.shot(0, 0) * 10 + rays.shot(1, 0), 1);
        T.due("45 their directions", rays.shot(0, 1) * 10 + rays.shot(1, 1), 10);
        T.due("45 the last one", rays.dropShot(1), 1);
        T.dueIndex("45 shot 1", () -> rays.dropShot(1));
        T.dueIndex("45 shot -1", () -> rays.dropShot(-1));
        T.due("45 the only one", rays.dropShot(0), 0);
        T.dueIndex("45 none is left", () -> rays.dropShot(0));
        T.due("45 undoCount", rays.undoCount(), 4);
    }

    private static void promises46And47() {
        RayLayers rays = Check.of(THREE);
        T.dueState("47 nothing is kept", () -> rays.restore(1));
        T.due("46 the number of shots", rays.keep(1), 2);
        T.dueState("47 nothing is kept in the other one", () -> rays.restore(0));
        rays.setMirror(30);
        rays.setOutside(1700);
        rays.dropShot(0);
        rays.removeLayer(1);
        T.due("46 the other slot", rays.keep(0), 1);
        T.due("47 shots then", rays.restore(1), 2);
        T.due("47 the layers", Check.layers(rays), "1100x10/1200x20/1300x30|1000");
        T.due("47 the outside", rays.property(1), 1000);
        T.due("47 a shot", rays.shot(1, 2), 7);
        rays.setLayer(0, 0, 3000);
        T.due("47 the slot keeps it", rays.restore(1) + rays.layer(0, 0), 1102);
        T.due("47 the other one", rays.restore(0), 1);
        T.due("47 its layers", Check.layers(rays), "1100x10/1300x30#30");
        T.due("46 in place of what was there", rays.keep(1), 1);
        rays.undo();
        T.due("47 undone", Check.layers(rays), "1100x10/1200x20/1300x30|1000");
        T.due("47 undo leaves the slots", rays.restore(1), 1);
        T.due("47 what was kept anew", Check.layers(rays), "1100x10/1300x30#30");
        for (int slot : new int[] {-1, 2, Integer.MAX_VALUE, Integer.MIN_VALUE}) {
            T.dueIndex("46 slot " + slot, () -> rays.keep(slot));
            T.dueIndex("47 slot " + slot, () -> rays.restore(slot));
        }
        RayLayers fresh = new RayLayers();
        fresh.keep(0);
        T.due("46 keep cannot be undone", fresh.undoCount(), 0);
        Check.load(fresh, THREE);
        T.due("47 a load leaves the slots", fresh.restore(0), 0);
        T.due("47 what there was at first", Check.layers(fresh), "1500x10|1000");
    }

    private static void promises48And49() {
        RayLayers rays = new RayLayers();
        T.dueState("48 nothing to undo", rays::undo);
        T.due("49 none", rays.undoCount(), 0);
        for (int i = 1; i <= 8; i++) {
            rays.setOutside(1000 + i);
            T.due("49 at most 6", rays.undoCount(), Math.min(i, 6));
        }
        for (int left = 5; left >= 0; left--) {
            T.due("48 how many are left", rays.undo(), left);
            T.due("49 how many are left", rays.undoCount(), left);
            T.due("48 the outside before", rays.property(1), 1002 + left);
        }
        T.dueState("48 nothing more", rays::undo);
        T.due("48 it stays", rays.property(1), 1002);
        rays.setOutside(1500);
        rays.setOutside(1600);
        T.due("48 after new changes", rays.undo(), 1);
        T.due("48 the new one before", rays.property(1), 1500);
        T.due("48 to what there was", rays.undo() + rays.property(1), 1002);
        int written = rays.writeLayers();
        Check.load(rays, THREE);
        Check.put(rays, "layer 1000 thick 1;");
        T.due("48 a load", rays.undo(), 0);
        T.due("48 the layers before it", rays.property(0), 1);
        T.due("48 the output stays", Check.output(rays, written), "1500x10|1000");
        T.due("48 the input stays", rays.load(), 1);
        T.due("48 what the input was", rays.layer(0, 0), 1000);
    }

    private static String all(RayLayers rays) {
        StringBuilder all = new StringBuilder(Check.layers(rays)).append(' ').append(rays.property(1));
        for (int layer = 0; layer < rays.property(0); layer++) {
            all.append(" -").append(rays.layer(layer, 2));
        }
        for (int shot = 0; shot < rays.property(4); shot++) {
            all.append(' ').append(rays.shot(shot, 0)).append(',').append(rays.shot(shot, 1)).append(',').append(rays.shot(shot, 2));
        }
        return all.toString();
    }

    private static void undone(String call, RayLayers rays, Check.Call change) {
        String before = all(rays);
        int count = rays.undoCount();
        change.answer();
        T.due("49 can be undone: " + call, rays.undoCount(), count + 1);
        T.due("48 undone: " + call, rays.undo(), count);
        T.due("48 as before: " + call, all(rays), before);
    }

    private static void whatCanBeUndone() {
        RayLayers rays = Check.of(THREE);
        rays.keep(0);
        rays.setMirror(20);
        undone("load", rays, () -> Check.load(rays, "layer 2000 thick 1;outside 3000;"));
        undone("addLayer", rays, () -> rays.addLayer(1, 2000, 2, 2));
        undone("removeLayer", rays, () -> rays.removeLayer(0));
        undone("setLayer", rays, () -> rays.setLayer(1, 2, 77));
        undone("setLayer to the same", rays, () -> rays.setLayer(1, 2, rays.layer(1, 2)));
        undone("setOutside", rays, () -> rays.setOutside(2000));
        undone("setOutside to the same", rays, () -> rays.setOutside(1000));
        undone("setOpen", rays, () -> rays.setOpen(1000));
        undone("setMirror", rays, () -> rays.setMirror(21));
        undone("setMirror to the same", rays, () -> rays.setMirror(20));
        undone("shoot", rays, () -> rays.shoot(0, true, 0));
        undone("turn", rays, () -> rays.turn(1, 8));
        undone("dropShot", rays, () -> rays.dropShot(0));
        undone("swapLayers", rays, () -> rays.swapLayers(0, 2));
        undone("restore", rays, () -> rays.restore(0));
        int count = rays.undoCount();
        rays.keep(1);
        Check.load(rays, "layer");
        rays.writeLayers();
        rays.writePath(0);
        rays.endIf(0, 0, 2000);
        rays.bestWithout(0);
        rays.guide();
        T.due("49 what cannot be undone", rays.undoCount(), count);
    }
}
