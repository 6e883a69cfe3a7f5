import java.util.function.Function;

/** "EXCEPTIONS": which exception a call throws, that it changes nothing then, and what else changes nothing. */
final class RefusalBounds {
    private static final String SECTION = "EXCEPTIONS";
    private static final int LOW = Integer.MIN_VALUE;
    private static final int HIGH = Integer.MAX_VALUE;

    private final Check t;

    RefusalBounds(Check t) {
        this.t = t;
    }

    void hold() {
        t.says(SECTION, "A layer, shot, leg or slot that does not exist causes an IndexOutOfBoundsException;", "A call that throws changes nothing.");
        missingLayers();
        missingShots();
        missingSlots();
        t.says(SECTION, "another value that is out of range causes an IllegalArgumentException.", "A call that throws changes nothing.");
        wrongValues();
        wrongValuesOfChanges();
        t.says(SECTION, "A call that throws changes nothing.");
        fullAndEmpty();
        t.says(SECTION, "If several exceptions apply, the one that is named first in the method's throws clause is thrown.");
        several();
        severalOfChanges();
        severalWithStates();
        beforeTheFirstLoad();
        layersByNumbers();
        questions();
        answersOnly();
    }

    private void refused(String call, Dump.Maker maker, String exception, Check.CallOn made) {
        RayLayers rays = maker.make();
        t.due(call, Check.outcome(() -> made.answer(rays)), "throws." + exception);
        t.due("behind " + call, Dump.everything(rays), Dump.everything(maker.make()));
    }

    private void index(String call, Check.CallOn made) {
        refused(call, Dump::full, "IndexOutOfBoundsException", made);
    }

    private void argument(String call, Check.CallOn made) {
        refused(call, Dump::full, "IllegalArgumentException", made);
    }

    /** A full object has four layers. */
    private void missingLayers() {
        for (int layer : new int[] {-1, 4, LOW, HIGH}) {
            index("layer(" + layer + ")", rays -> rays.layer(layer, 0));
            index("critical(" + layer + ")", rays -> rays.critical(layer, true));
            index("endOf(" + layer + ")", rays -> rays.endOf(layer, true, 0));
            index("shiftOf(" + layer + ")", rays -> rays.shiftOf(layer, true, 0));
            index("slants(" + layer + ")", rays -> rays.slants(layer, true, 0));
            index("leastSlant(" + layer + ")", rays -> rays.leastSlant(layer, true, 0));
            index("slantFor(" + layer + ")", rays -> rays.slantFor(layer, true, 0));
            index("fastest(" + layer + ")", rays -> rays.fastest(layer, true, 0));
            index("brightest(" + layer + ")", rays -> rays.brightest(layer, true, 0));
            index("farthest(" + layer + ")", rays -> rays.farthest(layer, true, 0));
            index("legsIn(" + layer + ")", rays -> rays.legsIn(layer));
            index("endIf(0, " + layer + ")", rays -> rays.endIf(0, layer, 1000));
            index("removeLayer(" + layer + ")", rays -> rays.removeLayer(layer));
            index("setLayer(" + layer + ")", rays -> rays.setLayer(layer, 0, 1000));
            index("swapLayers(" + layer + ", 0)", rays -> rays.swapLayers(layer, 0));
            index("swapLayers(0, " + layer + ")", rays -> rays.swapLayers(0, layer));
            index("shoot(" + layer + ")", rays -> rays.shoot(layer, true, 0));
            int at = layer == 4 ? 5 : layer;
            index("addLayer(" + at + ")", rays -> rays.addLayer(at, 1000, 1, 0));
        }
    }

    /** A full object has three shots. */
    private void missingShots() {
        for (int shot : new int[] {-1, 3, LOW, HIGH}) {
            index("shot(" + shot + ")", rays -> rays.shot(shot, 0));
            index("path(" + shot + ")", rays -> rays.path(shot, 0));
            index("leg(" + shot + ")", rays -> rays.leg(shot, 0, 0));
            index("legAt(" + shot + ")", rays -> rays.legAt(shot, 0));
            index("shiftAt(" + shot + ")", rays -> rays.shiftAt(shot, 0));
            index("depthAt(" + shot + ")", rays -> rays.depthAt(shot, 0));
            index("alike(" + shot + ", 0)", rays -> rays.alike(shot, 0));
            index("alike(0, " + shot + ")", rays -> rays.alike(0, shot));
            index("together(" + shot + ", 0)", rays -> rays.together(shot, 0));
            index("together(0, " + shot + ")", rays -> rays.together(0, shot));
            index("share(" + shot + ")", rays -> rays.share(shot));
            index("endIf(" + shot + ")", rays -> rays.endIf(shot, 0, 1000));
            index("bestWithout(" + shot + ")", rays -> rays.bestWithout(shot));
            index("turn(" + shot + ")", rays -> rays.turn(shot, 0));
            index("dropShot(" + shot + ")", rays -> rays.dropShot(shot));
            index("writePath(" + shot + ")", rays -> rays.writePath(shot));
        }
        for (int leg : new int[] {-1, Dump.full().path(0, 0), LOW, HIGH}) {
            index("leg(0, " + leg + ")", rays -> rays.leg(0, leg, 0));
        }
    }

    private void missingSlots() {
        for (int slot : new int[] {-1, 2, LOW, HIGH}) {
            index("keep(" + slot + ")", rays -> rays.keep(slot));
            index("restore(" + slot + ")", rays -> rays.restore(slot));
        }
    }

    private void wrongValues() {
        for (int beyond : new int[] {LOW, -1, HIGH}) {
            argument("property(" + beyond + ")", rays -> rays.property(beyond < 0 ? beyond : 6));
            argument("layer(0, " + beyond + ")", rays -> rays.layer(0, beyond < 0 ? beyond : 4));
            argument("shot(0, " + beyond + ")", rays -> rays.shot(0, beyond < 0 ? beyond : 3));
            argument("path(0, " + beyond + ")", rays -> rays.path(0, beyond < 0 ? beyond : 10));
            argument("leg(0, 0, " + beyond + ")", rays -> rays.leg(0, 0, beyond < 0 ? beyond : 7));
            argument("endOf(0, true, " + beyond + ")", rays -> rays.endOf(0, true, beyond < 0 ? beyond : 4000));
            argument("shiftOf(0, true, " + beyond + ")", rays -> rays.shiftOf(0, true, beyond < 0 ? beyond : 4000));
            argument("slants(0, true, " + beyond + ")", rays -> rays.slants(0, true, beyond < 0 ? beyond : 4));
            argument("leastSlant(0, true, " + beyond + ")", rays -> rays.leastSlant(0, true, beyond < 0 ? beyond : 4));
            argument("fastest(0, true, " + beyond + ")", rays -> rays.fastest(0, true, beyond < 0 ? beyond : 4));
            argument("brightest(0, true, " + beyond + ")", rays -> rays.brightest(0, true, beyond < 0 ? beyond : 4));
            argument("farthest(0, true, " + beyond + ")", rays -> rays.farthest(0, true, beyond < 0 ? beyond : 4));
            argument("count(" + beyond + ")", rays -> rays.count(beyond < 0 ? beyond : 5));
            argument("truncate(" + beyond + ")", rays -> {
                rays.truncate(beyond < 0 ? beyond : 20);
                return 0;
            });
        }
        for (int time : new int[] {-1, LOW}) {
            argument("legAt(0, " + time + ")", rays -> rays.legAt(0, time));
            argument("shiftAt(0, " + time + ")", rays -> rays.shiftAt(0, time));
            argument("depthAt(0, " + time + ")", rays -> rays.depthAt(0, time));
            argument("slantFor(0, true, " + time + ")", rays -> rays.slantFor(0, true, time));
        }
        for (int both = 0; both < 3; both++) {
            int shot = both;
            argument("alike(" + both + ", " + both + ")", rays -> rays.alike(shot, shot));
            argument("together(" + both + ", " + both + ")", rays -> rays.together(shot, shot));
        }
        for (int value : new int[] {999, 4001, LOW, HIGH}) {
            argument("endIf(0, 0, " + value + ")", rays -> rays.endIf(0, 0, value));
        }
    }

    private void wrongValuesOfChanges() {
        for (int value : new int[] {999, 4001, LOW, HIGH}) {
            argument("addLayer(0, " + value + ", 1, 0)", rays -> rays.addLayer(0, value, 1, 0));
            argument("setLayer(0, 0, " + value + ")", rays -> rays.setLayer(0, 0, value));
            argument("setOutside(" + value + ")", rays -> rays.setOutside(value));
            argument("setOpen(" + value + ")", rays -> rays.setOpen(value));
        }
        for (int value : new int[] {0, 1000, LOW, HIGH}) {
            argument("addLayer(0, 1000, " + value + ", 0)", rays -> rays.addLayer(0, 1000, value, 0));
            argument("setLayer(0, 1, " + value + ")", rays -> rays.setLayer(0, 1, value));
        }
        for (int value : new int[] {-1, 100, LOW, HIGH}) {
            argument("addLayer(0, 1000, 1, " + value + ")", rays -> rays.addLayer(0, 1000, 1, value));
            argument("setLayer(0, 2, " + value + ")", rays -> rays.setLayer(0, 2, value));
        }
        for (int value : new int[] {-1, 101, LOW, HIGH}) {
            argument("setMirror(" + value + ")", rays -> rays.setMirror(value));
        }
        for (int value : new int[] {-1, 3, LOW, HIGH}) {
            argument("setLayer(0, " + value + ", 1)", rays -> rays.setLayer(0, value, 1));
        }
        for (int value : new int[] {-1, 4000, LOW, HIGH}) {
            argument("turn(0, " + value + ")", rays -> rays.turn(0, value));
            argument("shoot(0, true, " + value + ")", rays -> rays.shoot(0, true, value));
        }
        for (int value : new int[] {1500, 1501, 3999}) {
            argument("shoot(0, false, " + value + ")", rays -> rays.shoot(0, false, value));
        }
        for (int both = 0; both < 4; both++) {
            int layer = both;
            argument("swapLayers(" + both + ", " + both + ")", rays -> rays.swapLayers(layer, layer));
        }
    }

    private void fullAndEmpty() {
        refused("append() at 400 bytes", Dump::brimful, "IllegalStateException", rays -> rays.append(0, 0, 0, 0, 0));
        refused("addLayer() with ten", Dump::brimful, "IllegalStateException", rays -> rays.addLayer(0, 1000, 1, 0));
        refused("addLayer() at the end of ten", Dump::brimful, "IllegalStateException", rays -> rays.addLayer(10, 1000, 1, 0));
        refused("shoot() with twenty", Dump::brimful, "IllegalStateException", rays -> rays.shoot(0, true, 0));
        refused("restore() of an empty slot", Dump::brimful, "IllegalStateException", rays -> rays.restore(1));
        refused("removeLayer() of the only one", RayLayers::new, "IllegalStateException", rays -> rays.removeLayer(0));
        refused("undo() of nothing", RayLayers::new, "IllegalStateException", RayLayers::undo);
        refused("restore() of nothing", RayLayers::new, "IllegalStateException", rays -> rays.restore(0));
        refused("outputByte() of nothing", RayLayers::new, "NoSuchElementException", rays -> rays.outputByte(0));
        int length = Dump.full().writePath(2);
        for (int index : new int[] {-1, length, LOW, HIGH}) {
            refused("outputByte(" + index + ")", Dump::full, "NoSuchElementException", rays -> rays.outputByte(index));
        }
    }

    private void several() {
        index("layer(4, 4)", rays -> rays.layer(4, 4));
        index("layer(-1, -1)", rays -> rays.layer(-1, -1));
        index("shot(3, 3)", rays -> rays.shot(3, 3));
        index("path(3, 10)", rays -> rays.path(3, 10));
        index("leg(3, 60, 7)", rays -> rays.leg(3, 60, 7));
        index("leg(0, 60, 7)", rays -> rays.leg(0, 60, 7));
        index("leg(0, -1, -1)", rays -> rays.leg(0, -1, -1));
        index("legAt(3, -1)", rays -> rays.legAt(3, -1));
        index("shiftAt(3, -1)", rays -> rays.shiftAt(3, -1));
        index("depthAt(3, -1)", rays -> rays.depthAt(3, -1));
        index("endOf(4, true, 4000)", rays -> rays.endOf(4, true, 4000));
        index("shiftOf(4, true, 4000)", rays -> rays.shiftOf(4, true, 4000));
        index("slants(4, true, 4)", rays -> rays.slants(4, true, 4));
        index("leastSlant(4, true, 4)", rays -> rays.leastSlant(4, true, 4));
        index("slantFor(4, true, -1)", rays -> rays.slantFor(4, true, -1));
        index("fastest(4, true, 4)", rays -> rays.fastest(4, true, 4));
        index("brightest(4, true, 4)", rays -> rays.brightest(4, true, 4));
        index("farthest(4, true, 4)", rays -> rays.farthest(4, true, 4));
        index("alike(3, 3)", rays -> rays.alike(3, 3));
        index("together(3, 3)", rays -> rays.together(3, 3));
        index("endIf(3, 0, 999)", rays -> rays.endIf(3, 0, 999));
        index("endIf(0, 4, 999)", rays -> rays.endIf(0, 4, 999));
        index("endIf(3, 4, 4001)", rays -> rays.endIf(3, 4, 4001));
    }

    private void severalOfChanges() {
        index("addLayer(5, 999, 1, 0)", rays -> rays.addLayer(5, 999, 1, 0));
        index("addLayer(5, 1000, 0, 0)", rays -> rays.addLayer(5, 1000, 0, 0));
        index("addLayer(-1, 1000, 1, 100)", rays -> rays.addLayer(-1, 1000, 1, 100));
        index("setLayer(4, 3, 0)", rays -> rays.setLayer(4, 3, 0));
        index("setLayer(4, 0, 999)", rays -> rays.setLayer(4, 0, 999));
        index("swapLayers(4, 4)", rays -> rays.swapLayers(4, 4));
        index("shoot(4, true, 4000)", rays -> rays.shoot(4, true, 4000));
        index("turn(3, 4000)", rays -> rays.turn(3, 4000));
    }

    private void severalWithStates() {
        refused("addLayer(11, 999, 0, 100) with ten", Dump::brimful, "IndexOutOfBoundsException", rays -> rays.addLayer(11, 999, 0, 100));
        refused("addLayer(11, 1000, 1, 0) with ten", Dump::brimful, "IndexOutOfBoundsException", rays -> rays.addLayer(11, 1000, 1, 0));
        refused("addLayer(-1, 1000, 1, 0) with ten", Dump::brimful, "IndexOutOfBoundsException", rays -> rays.addLayer(-1, 1000, 1, 0));
        refused("addLayer(10, 999, 1, 0) with ten", Dump::brimful, "IllegalArgumentException", rays -> rays.addLayer(10, 999, 1, 0));
        refused("addLayer(10, 1000, 1000, 0) with ten", Dump::brimful, "IllegalArgumentException", rays -> rays.addLayer(10, 1000, 1000, 0));
        refused("addLayer(10, 1000, 1, 100) with ten", Dump::brimful, "IllegalArgumentException", rays -> rays.addLayer(10, 1000, 1, 100));
        refused("shoot(10, true, 4000) with twenty", Dump::brimful, "IndexOutOfBoundsException", rays -> rays.shoot(10, true, 4000));
        refused("shoot(10, true, 0) with twenty", Dump::brimful, "IndexOutOfBoundsException", rays -> rays.shoot(10, true, 0));
        refused("shoot(9, true, 1500) with twenty", Dump::brimful, "IllegalArgumentException", rays -> rays.shoot(9, true, 1500));
        refused("shoot(9, true, -1) with twenty", Dump::brimful, "IllegalArgumentException", rays -> rays.shoot(9, true, -1));
        refused("restore(2) with an empty slot", Dump::brimful, "IndexOutOfBoundsException", rays -> rays.restore(2));
        refused("removeLayer(1) of one", RayLayers::new, "IndexOutOfBoundsException", rays -> rays.removeLayer(1));
        refused("removeLayer(-1) of one", RayLayers::new, "IndexOutOfBoundsException", rays -> rays.removeLayer(-1));
    }

    private void beforeTheFirstLoad() {
        t.says(SECTION, "Before the first successful load() all is as by the text \"layer 1500 thick 10;\".");
        RayLayers loaded = Check.of("layer 1500 thick 10;");
        t.due("a new object", Dump.state(new RayLayers()), Dump.state(loaded));
        RayLayers failed = new RayLayers();
        Check.load(failed, "layer 2000 thick 20;;");
        t.due("behind a text with an error", Dump.state(failed), Dump.state(loaded));
        t.due("undoCount() then", failed.undoCount(), 0);
        Check.load(failed, "layer 2000 thick 20;");
        failed.undo();
        t.due("the first load() undone", Dump.state(failed), Dump.state(loaded));
    }

    private void layersByNumbers() {
        t.says(SECTION, "Shots keep their layers by numbers when layers are added, removed or swapped.");
        String shots = "; >0 1 5; >1 0 6; >2 1 7";
        RayLayers rays = Check.of("layer 1500 thick 1;layer 1400 thick 2;layer 1300 thick 3;shot 0 down 5;shot 1 up 6;shot 2 down 7;");
        for (int at : new int[] {0, 1, 4, 6}) {
            rays.addLayer(at, 1000, 1, 0);
            t.due("added at " + at, Dump.state(rays).endsWith(shots), true);
        }
        rays.swapLayers(0, 6);
        rays.swapLayers(2, 1);
        t.due("swapped", Dump.state(rays).endsWith(shots), true);
        for (int layer : new int[] {0, 5, 2, 1, 0, 1}) {
            rays.removeLayer(layer);
            t.due("removed " + layer, Dump.state(rays).endsWith(shots), true);
        }
        t.due("without their layers they cannot begin", rays.path(0, 1) + " " + rays.path(1, 1) + " " + rays.path(2, 1), "1 4 4");
        rays.addLayer(0, 1500, 1, 0);
        t.due("with one they can", rays.path(0, 1) + " " + rays.path(1, 1) + " " + rays.path(2, 1), "1 0 4");
    }

    private void unchanged(String call, Check.CallOn made) {
        for (Dump.Maker maker : new Dump.Maker[] {Dump::full, Dump::brimful}) {
            RayLayers rays = maker.make();
            Object first = made.answer(rays);
            t.due("again: " + call, made.answer(rays), first);
            t.due("behind " + call, Dump.everything(rays), Dump.everything(maker.make()));
        }
    }

    private void questions() {
        t.says(SECTION, "Methods that ask what would be do not change anything.");
        unchanged("endIf()", rays -> rays.endIf(0, 1, 4000));
        unchanged("bestWithout()", rays -> rays.bestWithout(0));
        unchanged("endOf()", rays -> rays.endOf(0, true, 3999));
        unchanged("shiftOf()", rays -> rays.shiftOf(1, true, 1300));
        unchanged("slants()", rays -> rays.slants(2, true, 3));
        unchanged("leastSlant()", rays -> rays.leastSlant(2, false, 0));
        unchanged("slantFor()", rays -> rays.slantFor(0, true, 30));
        unchanged("fastest()", rays -> rays.fastest(1, false, 1));
        unchanged("brightest()", rays -> rays.brightest(1, true, 2));
        unchanged("farthest()", rays -> rays.farthest(3, true, 3));
        unchanged("guide()", RayLayers::guide);
        unchanged("critical()", rays -> rays.critical(0, true));
    }

    /** The other methods of which the document tells an answer and no change. */
    private void answersOnly() {
        t.says(25, "Returns how many shots have this end.");
        unchanged("count()", rays -> rays.count(0));
        unchanged("first()", RayLayers::first);
        unchanged("strongest()", RayLayers::strongest);
        unchanged("alike()", rays -> rays.alike(0, 1));
        unchanged("together()", rays -> rays.together(0, 1));
        unchanged("legsIn()", rays -> rays.legsIn(0));
        unchanged("busiest()", RayLayers::busiest);
        unchanged("meanIndex()", RayLayers::meanIndex);
        unchanged("share()", rays -> rays.share(0));
        unchanged("path()", rays -> rays.path(0, 4));
        unchanged("leg()", rays -> rays.leg(0, 0, 5));
        unchanged("legAt()", rays -> rays.legAt(0, 9));
        unchanged("shiftAt()", rays -> rays.shiftAt(0, 9));
        unchanged("depthAt()", rays -> rays.depthAt(0, 9));
        unchanged("undoCount()", RayLayers::undoCount);
        unchanged("errorCode()", RayLayers::errorCode);
        unchanged("errorPosition()", RayLayers::errorPosition);
        unchanged("outputByte()", rays -> rays.outputByte(0));
        t.says(46, "Keeps everything that undo() restores, but what can be undone, in a slot");
        changedOnly("keep()", rays -> rays.keep(0), Dump::withoutSlots);
        t.says(50, "Writes the layers to the output buffer");
        changedOnly("writeLayers()", RayLayers::writeLayers, Dump::withoutOutput);
        t.says(51, "Writes the path of a shot to the output buffer");
        changedOnly("writePath()", rays -> rays.writePath(0), Dump::withoutOutput);
    }

    private void changedOnly(String call, Check.CallOn made, Function<RayLayers, String> rest) {
        for (Dump.Maker maker : new Dump.Maker[] {Dump::full, Dump::brimful}) {
            RayLayers rays = maker.make();
            made.answer(rays);
            t.due("all else behind " + call, rest.apply(rays), rest.apply(maker.make()));
        }
    }
}
