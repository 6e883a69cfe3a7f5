/** Promises 1 to 6: a new object, the input buffer, and which errors a text has. */
public final class TextTest {
    private static final Check T = new Check();
    private static final String LAYER = "layer 1500 thick 10;";

    private TextTest() {
    }

    public static void main(String[] args) {
        promise1();
        promise2();
        promise3();
        promise4();
        promises5And6();
        errorsOfLayers();
        errorsOfTheOutside();
        errorsOfTheBottom();
        errorsOfShots();
        tokens();
        T.close("TextTest");
    }

    private static void promise1() {
        RayLayers rays = new RayLayers();
        T.due("1 new: layers", rays.property(0), 1);
        T.due("1 new: outside", rays.property(1), 1000);
        T.due("1 new: bottom", rays.property(2), 0);
        T.due("1 new: index of the bottom", rays.property(3), 1000);
        T.due("1 new: shots", rays.property(4), 0);
        T.due("1 new: index", rays.layer(0, 0), 1500);
        T.due("1 new: thickness", rays.layer(0, 1), 10);
        T.due("1 new: loss", rays.layer(0, 2), 0);
        T.due("1 new: errorCode", rays.errorCode(), 0);
        T.due("1 new: errorPosition", rays.errorPosition(), -1);
        T.due("1 new: undoCount", rays.undoCount(), 0);
        T.due("1 new: output", Check.outcome(() -> rays.outputByte(0)), "throws.NoSuchElementException");
        T.dueArgument("1 new: input", () -> { rays.truncate(1); return 0; });
        T.dueState("1 new: slot 0", () -> rays.restore(0));
        T.dueState("1 new: slot 1", () -> rays.restore(1));
        RayLayers loaded = Check.of(LAYER);
        T.due("1 as by the text", Check.layers(rays), Check.layers(loaded));
    }

    private static void promise2() {
        RayLayers rays = new RayLayers();
        T.due("2 append", rays.append(0x6c617965, 0x72203130, 0x30302074, 0x6869636b, 0x20313b20), 20);
        T.due("2 its bytes", rays.load(), 1);
        T.due("2 its index", rays.layer(0, 0), 1000);
        for (int length = 20; length <= 400; length += 20) {
            T.due("2 append", rays.append(0, 0, 0, 0, 0), length);
        }
        T.dueState("2 a full buffer", () -> rays.append(0, 0, 0, 0, 0));
        rays.truncate(381);
        T.dueState("2 381 bytes", () -> rays.append(0, 0, 0, 0, 0));
        rays.truncate(380);
        T.due("2 380 bytes", rays.append(0, 0, 0, 0, 0), 400);
    }

    private static void promise3() {
        RayLayers rays = new RayLayers();
        Check.put(rays, LAYER + "%%%%");
        T.dueArgument("3 truncate(-1)", () -> { rays.truncate(-1); return 0; });
        T.dueArgument("3 truncate(25)", () -> { rays.truncate(25); return 0; });
        rays.truncate(24);
        rays.truncate(20);
        T.due("3 load", rays.load(), 1);
        T.dueArgument("3 the buffer is empty", () -> { rays.truncate(1); return 0; });
        rays.truncate(0);
    }

    private static void promise4() {
        RayLayers rays = Check.of("layer 1500 thick 100 loss 3;layer 1300 thick 50;outside 1200;bottom mirror 50;shot 1 up 7;");
        T.due("4 layers", rays.property(0), 2);
        T.due("4 outside", rays.property(1), 1200);
        T.due("4 mirror", rays.property(2), 1);
        T.due("4 percents", rays.property(3), 50);
        T.due("4 shots", rays.property(4), 1);
        T.due("4 loss", rays.layer(0, 2), 3);
        T.due("4 no loss", rays.layer(1, 2), 0);
        T.due("4 shot's layer", rays.shot(0, 0), 1);
        T.due("4 shot's direction", rays.shot(0, 1), 0);
        T.due("4 shot's slant", rays.shot(0, 2), 7);
        rays.keep(0);
        int written = rays.writeLayers();
        T.due("4 an error", Check.load(rays, "layer 1500 thick 10;%"), -4);
        T.due("4 what is kept by an error", rays.property(0), 2);
        T.due("4 undoCount by an error", rays.undoCount(), 1);
        T.due("4 empties the buffer by an error", rays.append(0, 0, 0, 0, 0), 20);
        rays.truncate(0);
        T.due("4 load", Check.load(rays, LAYER), 1);
        T.due("4 outside by default", rays.property(1), 1000);
        T.due("4 open by default", rays.property(2), 0);
        T.due("4 the bottom's index by default", rays.property(3), 1000);
        T.due("4 no shots", rays.property(4), 0);
        T.due("4 the output stays", Check.output(rays, written), "1500x100/1300x50#50");
        T.due("4 undoCount", rays.undoCount(), 2);
        T.due("4 the slot stays", rays.restore(0), 1);
        T.due("4 ten layers", Check.load(rays, Check.times(LAYER, 10)), 10);
        T.due("4 400 bytes", Check.load(rays, Check.times(LAYER, 4) + Check.times(" ", 320)), 4);
        T.due("4 twenty shots", Check.load(rays, LAYER + Check.times("shot 0 up 0;", 20)), 1);
        T.due("4 twenty shots are there", rays.property(4), 20);
        T.due("4 any order", Check.load(rays, "layer 1500 thick 10;shot 0 up 1;bottom open 3000;outside 2000;layer 2000 thick 5;shot 1 down 2;"), 2);
        T.due("4 open", rays.property(3), 3000);
    }

    private static void error(String text, int code, int position) {
        RayLayers rays = new RayLayers();
        T.due("load of " + text, Check.load(rays, text), -4);
        T.due("5 errorCode of " + text, rays.errorCode(), code);
        T.due("6 errorPosition of " + text, rays.errorPosition(), position);
        T.due("4 undoCount of " + text, rays.undoCount(), 0);
    }

    private static void good(String text) {
        RayLayers rays = new RayLayers();
        Check.load(rays, text);
        T.due("5 errorCode of " + text, rays.errorCode(), 0);
        T.due("6 errorPosition of " + text, rays.errorPosition(), -1);
    }

    private static void promises5And6() {
        RayLayers rays = new RayLayers();
        Check.load(rays, "layer 5;");
        T.due("5 errorCode", rays.errorCode(), 2);
        T.due("6 errorPosition", rays.errorPosition(), 6);
        rays.setOutside(1500);
        rays.undo();
        T.due("5 undo leaves it", rays.errorCode(), 2);
        T.due("6 undo leaves it", rays.errorPosition(), 6);
        Check.load(rays, LAYER);
        T.due("5 none", rays.errorCode(), 0);
        T.due("6 none", rays.errorPosition(), -1);
        error("", 1, 0);
        error("  \n ", 1, 4);
        error("shot 0 down 1;", 1, 0);
        error("outside 1000;", 1, 0);
        error("bottom open 1000;", 1, 0);
        error(";", 1, 0);
        error("1500", 1, 0);
        error(LAYER + ";", 1, 20);
        error(LAYER + "layers", 1, 20);
        error(LAYER + "thick", 1, 20);
    }

    private static void errorsOfLayers() {
        error("layer", 1, 5);
        error("layer thick", 1, 6);
        error("layer 999 thick 1;", 2, 6);
        error("layer 4001 thick 1;", 2, 6);
        good("layer 1000 thick 1;");
        good("layer 4000 thick 999;");
        error("layer 1500;", 1, 10);
        error("layer 1500 loss 5;", 1, 11);
        error("layer 1500 thick;", 1, 16);
        error("layer 1500 thick 0;", 2, 17);
        error("layer 1500 thick 1000;", 2, 17);
        error("layer 1500 thick 10 loss;", 1, 24);
        error("layer 1500 thick 10 loss 100;", 2, 25);
        good("layer 1500 thick 10 loss 0;");
        good("layer 1500 thick 10 loss 99;");
        error("layer 1500 thick 10 loss 5 loss 5;", 1, 27);
        error("layer 1500 thick 10 thick 10;", 1, 20);
        error("layer 1500 thick 10", 1, 19);
        error(Check.times(LAYER, 10) + "layer 0", 6, 200);
    }

    private static void errorsOfTheOutside() {
        error(LAYER + "outside;", 1, 27);
        error(LAYER + "outside 999;", 2, 28);
        error(LAYER + "outside 4001;", 2, 28);
        good(LAYER + "outside 1000;");
        good(LAYER + "outside 4000;");
        error(LAYER + "outside 1000", 1, 32);
        error(LAYER + "outside 1000;outside;", 3, 33);
        error(LAYER + "outside 1000;bottom open 1000;outside 5;", 3, 50);
    }

    private static void errorsOfTheBottom() {
        error(LAYER + "bottom 1000;", 1, 27);
        error(LAYER + "bottom open;", 1, 31);
        error(LAYER + "bottom open 999;", 2, 32);
        error(LAYER + "bottom open 4001;", 2, 32);
        good(LAYER + "bottom open 1000;");
        good(LAYER + "bottom open 4000;");
        error(LAYER + "bottom mirror up;", 1, 34);
        error(LAYER + "bottom mirror 101;", 2, 34);
        good(LAYER + "bottom mirror 0;");
        good(LAYER + "bottom mirror 100;");
        error(LAYER + "bottom mirror 100 open 1000;", 1, 38);
        error(LAYER + "bottom open 1000;bottom open 1000;", 3, 37);
        error(LAYER + "bottom open 1000;bottom dark", 3, 37);
    }

    private static void errorsOfShots() {
        error(LAYER + "shot down 0;", 1, 25);
        error(LAYER + "shot 1 down 0;", 4, 25);
        error(LAYER + "shot 9 down 0;", 4, 25);
        error(LAYER + "shot 10 down 0;", 2, 25);
        error(LAYER + "shot 0 left 0;", 1, 27);
        error(LAYER + "shot 0 0;", 1, 27);
        error(LAYER + "shot 0 down;", 1, 31);
        error(LAYER + "shot 0 up 4000;", 2, 30);
        error(LAYER + "shot 0 up 3999;", 5, 30);
        error(LAYER + "shot 0 up 1500;", 5, 30);
        good(LAYER + "shot 0 up 1499;");
        good("layer 4000 thick 1;shot 0 down 3999;");
        error(LAYER + "shot 1 down 0;layer 1500 thick 10;", 4, 25);
        error(LAYER + Check.times("shot 0 up 0;", 20) + "shot 7", 6, 260);
    }

    private static void tokens() {
        good("layer1500thick10loss5;shot0up0;");
        good("\n layer\n1500 thick\n10 ; \n");
        good("layer 000000000000000000000000001500 thick 0010;");
        error("layer 99999999999999999999999999999999 thick 10;", 2, 6);
        error("layer 4294968796 thick 10;", 2, 6);
        error("layer 18446744073709553116 thick 10;", 2, 6);
        error("layer 15 00 thick 10;", 2, 6);
        error("layer 1500thick10;%", 1, 18);
        error("layer\t1500 thick 10;", 1, 5);
        error("layer -1500 thick 10;", 1, 6);
        error("Layer 1500 thick 10;", 1, 0);
        error("layer 1500 thick 10;\u00ff", 1, 20);
        error("layer 1500 thick 10,", 1, 19);
        error("layerx 1500 thick 10;", 1, 0);
        error("xayer 1500 thick 10;", 1, 0);
        error("layerz 1500 thick 10;", 1, 0);
        error("layera 1500 thick 10;", 1, 0);
        error("laye 1500 thick 10;", 1, 0);
        error("layer 1500 thick 10;\0", 1, 20);
    }
}
