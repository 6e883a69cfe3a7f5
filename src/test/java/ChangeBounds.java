/** "Terms 3" and promises 36 to 49: changes of layers and shots, the slots, and what can be undone. */
final class ChangeBounds {
    private static final String TERMS = "Terms 3";
    private static final String INDEX = "IndexOutOfBoundsException";
    private static final String ARGUMENT = "IllegalArgumentException";
    private static final String LAYER = "layer: number of a layer";
    private static final String NO_LAYER = "Throws IndexOutOfBoundsException if there is no such layer";
    private static final String SHOT = "shot: number of a shot";
    private static final String NO_SHOT = "Throws IndexOutOfBoundsException if there is no such shot";
    private static final String SLOT = "slot: 0 or 1";
    private static final String NO_SLOT = "Throws IndexOutOfBoundsException if there is no such slot";
    private static final String TEN = "layer1500thick1;".repeat(10);

    private final Check t;

    ChangeBounds(Check t) {
        this.t = t;
    }

    void hold() {
        addLayer();
        removeLayer();
        setLayer();
        swapLayers();
        setOutside();
        setOpen();
        setMirror();
        shoot();
        turn();
        dropShot();
        keep();
        restore();
        undo();
        undoCount();
        whatCanBeUndone();
        whatUndoRestores();
    }

    private static RayLayers three() {
        return Check.of("layer 1100 thick 10;layer 1200 thick 20 loss 2;layer 1300 thick 30;shot 2 up 5;shot 0 down 7;");
    }

    private static RayLayers ten() {
        return Check.of(TEN + "shot9up7;".repeat(20));
    }

    private void addLayer() {
        t.says(36, "at: number that the layer gets, 0 to the number of layers", "Throws IndexOutOfBoundsException if at is out of range");
        t.range("at, among three", 0, 3, INDEX, at -> three().addLayer(at, 1000, 1, 0));
        t.range("at, with the only one", 0, 1, INDEX, at -> new RayLayers().addLayer(at, 1000, 1, 0));
        t.range("at, among nine", 0, 9, INDEX, at -> Check.of("layer1500thick1;".repeat(9)).addLayer(at, 1000, 1, 0));
        for (int at = 0; at <= 3; at++) {
            RayLayers rays = three();
            t.due("layers then", rays.addLayer(at, 4000, 999, 99), 4);
            String[] layers = {"1100x10", "1200x20", "1300x30"};
            StringBuilder due = new StringBuilder();
            for (int layer = 0; layer <= 3; layer++) {
                due.append(layer == at ? "4000x999/" : "").append(layer < 3 ? layers[layer] + "/" : "");
            }
            due.setCharAt(due.length() - 1, '|');
            t.due("it gets the number " + at, Check.layers(rays), due + "1000");
            t.due("its loss", rays.layer(at, 2), 99);
            t.due("the other loss", rays.layer(at <= 1 ? 2 : 1, 2), 2);
        }
        t.says(36, "index: 1000 to 4000", "thickness: 1 to 999", "loss: 0 to 99", "Throws IllegalArgumentException if index, thickness or loss is out of range");
        t.range("index", 1000, 4000, ARGUMENT, index -> three().addLayer(0, index, 1, 0));
        t.range("thickness", 1, 999, ARGUMENT, thickness -> three().addLayer(3, 1000, thickness, 0));
        t.range("loss", 0, 99, ARGUMENT, loss -> three().addLayer(1, 1000, 1, loss));
        t.says(36, "Returns the number of layers then.", "Throws IllegalStateException if there are 10 layers");
        RayLayers rays = new RayLayers();
        for (int layers = 2; layers <= 10; layers++) {
            t.due("layers then", rays.addLayer(layers - 1, 1000, 1, 0), layers);
        }
        for (int at = 0; at <= 10; at++) {
            int place = at;
            t.dueState("an 11th at " + at, () -> rays.addLayer(place, 1000, 1, 0));
        }
        rays.removeLayer(0);
        t.due("the tenth again", rays.addLayer(9, 1000, 1, 0), 10);
    }

    private void removeLayer() {
        t.says(37, LAYER, NO_LAYER);
        t.range("one of three", 0, 2, INDEX, layer -> three().removeLayer(layer));
        t.range("one of ten", 0, 9, INDEX, layer -> ten().removeLayer(layer));
        String[] due = {"1200x20/1300x30|1000", "1100x10/1300x30|1000", "1100x10/1200x20|1000"};
        for (int layer = 0; layer < 3; layer++) {
            RayLayers rays = three();
            t.due("layers without " + layer, rays.removeLayer(layer), 2);
            t.due("what is left without " + layer, Check.layers(rays), due[layer]);
        }
        t.says(37, "Returns the number of layers then.", "Throws IllegalStateException if it is the only one");
        RayLayers rays = ten();
        for (int layers = 9; layers >= 1; layers--) {
            t.due("layers then", rays.removeLayer(layers), layers);
        }
        t.dueState("the only one", () -> rays.removeLayer(0));
        t.dueIndex("layer 1 of one", () -> rays.removeLayer(1));
        t.dueIndex("layer -1 of one", () -> rays.removeLayer(-1));
        rays.addLayer(1, 1000, 1, 0);
        t.due("one of two", rays.removeLayer(0), 1);
        t.due("all shots are there", rays.property(4), 20);
    }

    private void setLayer() {
        t.says(38, LAYER, NO_LAYER);
        t.range("one of three", 0, 2, INDEX, layer -> three().setLayer(layer, 0, 1000));
        t.range("the only one", 0, 0, INDEX, layer -> new RayLayers().setLayer(layer, 2, 0));
        t.says(38, "what: 0 its index; 1 its thickness; 2 its loss", "value: the new value, in its range",
                "Throws IllegalArgumentException if what or value is out of range");
        t.range("what", 0, 2, ARGUMENT, what -> three().setLayer(0, what, new int[] {1000, 999, 99, 1, 1}[Math.max(0, Math.min(what, 3))]));
        t.range("index", 1000, 4000, ARGUMENT, index -> three().setLayer(0, 0, index));
        t.range("thickness", 1, 999, ARGUMENT, thickness -> three().setLayer(1, 1, thickness));
        t.range("loss", 0, 99, ARGUMENT, loss -> three().setLayer(2, 2, loss));
        t.says(38, "Returns the value before.");
        RayLayers rays = three();
        t.due("index", rays.setLayer(0, 0, 1000) + " " + rays.setLayer(0, 0, 4000) + " " + rays.setLayer(0, 0, 4000), "1100 1000 4000");
        t.due("thickness", rays.setLayer(1, 1, 1) + " " + rays.setLayer(1, 1, 999) + " " + rays.setLayer(1, 1, 999), "20 1 999");
        t.due("loss", rays.setLayer(1, 2, 0) + " " + rays.setLayer(1, 2, 99) + " " + rays.setLayer(1, 2, 99), "2 0 99");
        t.due("all", Dump.state(rays), "3 1000 0 1000 2 1039; 4000 10 0 0; 1200 999 99 10; 1300 30 0 1009; >2 0 5; >0 1 7");
    }

    private void swapLayers() {
        t.says(39, LAYER, "other: another layer", NO_LAYER);
        t.range("one of ten, and layer 9", 0, 8, INDEX, layer -> ten().swapLayers(layer > 8 ? layer + 1 : layer, 9));
        t.range("layer 9, and one of ten", 0, 8, INDEX, layer -> ten().swapLayers(9, layer > 8 ? layer + 1 : layer));
        t.says(39, "Throws IllegalArgumentException if both are the same");
        for (int layer = 0; layer < 3; layer++) {
            int both = layer;
            t.dueArgument("layers " + both + " and " + both, () -> three().swapLayers(both, both));
        }
        t.dueIndex("layers 3 and 3", () -> three().swapLayers(3, 3));
        t.dueIndex("layers -1 and -1", () -> three().swapLayers(-1, -1));
        t.says(39, "Two layers change places.");
        RayLayers rays = three();
        rays.swapLayers(0, 2);
        t.due("the first and the last one", Dump.state(rays), "3 1000 0 1000 2 60; 1300 30 0 0; 1200 20 2 30; 1100 10 0 50; >2 0 5; >0 1 7");
        rays.swapLayers(2, 1);
        t.due("the last two", Dump.state(rays), "3 1000 0 1000 2 60; 1300 30 0 0; 1100 10 0 30; 1200 20 2 40; >2 0 5; >0 1 7");
        t.says(39, "Returns how many shots have another end by that.");
        t.due("no shots", Check.of("layer 1500 thick 1;layer 1000 thick 1;").swapLayers(0, 1), 0);
        RayLayers all = Check.of("layer 1500 thick 1;layer 1000 thick 1;" + "shot 0 up 1200;".repeat(20));
        t.due("all of twenty: trapped, then without legs", all.swapLayers(0, 1), 20);
        t.due("all of twenty: and back", all.swapLayers(1, 0), 20);
        all.turn(7, 999);
        t.due("all but one", all.swapLayers(0, 1), 19);
        t.due("none, of two layers alike", Check.of("layer 1500 thick 1;layer 1500 thick 1;shot 0 up 1200;").swapLayers(0, 1), 0);
        all.dropShot(19);
        t.due("without the last one", all.swapLayers(0, 1), 18);
        Check.load(all, "layer 1500 thick 1;layer 1000 thick 1;");
        t.due("without any behind a text", all.swapLayers(0, 1), 0);
        RayLayers gone = Check.of("layer 1500 thick 1;layer 1000 thick 1;layer 1000 thick 1;shot 2 up 0;");
        gone.removeLayer(2);
        t.due("a shot without a layer", gone.swapLayers(0, 1), 0);
    }

    private void setOutside() {
        t.says(40, "index: 1000 to 4000", "Throws IllegalArgumentException if index is out of range");
        t.range("index", 1000, 4000, ARGUMENT, index -> three().setOutside(index));
        t.says(40, "Returns the index above the layers before.");
        RayLayers rays = three();
        t.due("as at first", rays.setOutside(4000), 1000);
        t.due("the greatest one", rays.setOutside(1000), 4000);
        t.due("the least one", rays.setOutside(1000), 1000);
        t.due("the same", rays.property(1), 1000);
    }

    private void setOpen() {
        t.says(41, "index: 1000 to 4000", "Throws IllegalArgumentException if index is out of range");
        t.range("index", 1000, 4000, ARGUMENT, index -> three().setOpen(index));
        t.says(41, "The bottom is open.", "Returns 5000 if it was a mirror, otherwise the index before.");
        RayLayers rays = three();
        t.due("as at first", rays.setOpen(4000), 1000);
        t.due("the greatest one", rays.setOpen(1000), 4000);
        t.due("the least one", rays.setOpen(1000), 1000);
        for (int percents : new int[] {0, 1, 100}) {
            rays.setMirror(percents);
            t.due("a mirror of " + percents, rays.setOpen(1000 + percents), 5000);
            t.due("open", rays.property(2) * 10000 + rays.property(3), 1000 + percents);
        }
    }

    private void setMirror() {
        t.says(42, "percents: 0 to 100", "Throws IllegalArgumentException if percents is out of range");
        t.range("percents", 0, 100, ARGUMENT, percents -> three().setMirror(percents));
        t.says(42, "The bottom is a mirror.", "Returns the percents before; NONE if it was open.");
        RayLayers rays = three();
        t.due("open", rays.setMirror(0), -1);
        t.due("a mirror", rays.property(2) * 1000 + rays.property(3), 1000);
        t.due("none before", rays.setMirror(100), 0);
        t.due("all before", rays.setMirror(1), 100);
        t.due("the same", rays.setMirror(1), 1);
        rays.setOpen(1000);
        t.due("open again", rays.setMirror(100), -1);
        t.due("all", rays.property(2) * 1000 + rays.property(3), 1100);
    }

    private void shoot() {
        t.says(43, LAYER, "down: true for down from its top, false for up from its bottom", NO_LAYER);
        t.range("one of three", 0, 2, INDEX, layer -> three().shoot(layer, true, 0));
        t.range("the only one", 0, 0, INDEX, layer -> new RayLayers().shoot(layer, false, 0));
        RayLayers ways = three();
        ways.shoot(1, true, 3);
        ways.shoot(1, false, 4);
        t.due("down", ways.depthAt(2, 0) + " " + ways.shot(2, 1), "10 1");
        t.due("up", ways.depthAt(3, 0) + " " + ways.shot(3, 1), "30 0");
        t.says(43, "slant: 0 to 3999", "Throws IllegalArgumentException if slant is out of range, or not less than the index of the layer");
        t.range("slant in index 1100", 0, 1099, ARGUMENT, slant -> three().shoot(0, true, slant));
        t.range("slant in index 1300", 0, 1299, ARGUMENT, slant -> three().shoot(2, false, slant));
        t.range("slant in index 4000", 0, 3999, ARGUMENT, slant -> Check.of("layer 4000 thick 1;").shoot(0, true, slant));
        t.says(43, "Returns the number of the shot.", "Throws IllegalStateException if there are 20 shots");
        RayLayers rays = new RayLayers();
        for (int shot = 0; shot < 20; shot++) {
            t.due("its number", rays.shoot(0, true, shot), shot);
        }
        t.dueState("a 21st", () -> rays.shoot(0, true, 0));
        t.dueArgument("a 21st of slant 1500", () -> rays.shoot(0, true, 1500));
        t.due("the last one", rays.shot(19, 2), 19);
        rays.dropShot(0);
        t.due("the 20th again", rays.shoot(0, true, 1499), 19);
    }

    private void turn() {
        t.says(44, SHOT, NO_SHOT);
        t.range("one of twenty", 0, 19, INDEX, shot -> ten().turn(shot, 0));
        t.dueIndex("shot 0 of none", () -> new RayLayers().turn(0, 0));
        t.says(44, "slant: 0 to 3999", "Throws IllegalArgumentException if slant is out of range");
        t.range("slant in index 1300", 0, 3999, ARGUMENT, slant -> three().turn(0, slant));
        t.says(44, "Turns a shot: another slant (perhaps one with which it cannot begin).", "Returns its end then.");
        RayLayers rays = Check.of("layer 1500 thick 10;outside 1200;bottom open 1100;shot 0 up 0;shot 0 down 0;");
        int[][] due = {{1099, 0, 1}, {1100, 0, 0}, {1199, 0, 0}, {1200, 3, 3}, {1499, 3, 3}, {1500, 4, 4}, {1501, 4, 4}, {3999, 4, 4}, {0, 0, 1}};
        for (int[] slant : due) {
            t.due("up with slant " + slant[0], rays.turn(0, slant[0]), slant[1]);
            t.due("down with slant " + slant[0], rays.turn(1, slant[0]), slant[2]);
            t.due("the slants", rays.shot(0, 2) + rays.shot(1, 2), 2 * slant[0]);
        }
        t.due("the same slant", rays.turn(0, 0), 0);
    }

    private void dropShot() {
        t.says(45, SHOT, NO_SHOT);
        t.range("one of twenty", 0, 19, INDEX, shot -> ten().dropShot(shot));
        t.dueIndex("shot 0 of none", () -> new RayLayers().dropShot(0));
        t.says(45, "Drops a shot; those behind it get the numbers less by 1.");
        String[] due = {"; >1 1 6; >0 0 7", "; >0 0 5; >0 0 7", "; >0 0 5; >1 1 6"};
        for (int shot = 0; shot < 3; shot++) {
            RayLayers rays = Check.of("layer 1500 thick 1;layer 1500 thick 1;shot 0 up 5;shot 1 down 6;shot 0 up 7;");
            rays.dropShot(shot);
            t.due("without shot " + shot, Dump.state(rays), "2 1000 0 1000 2 2; 1500 1 0 0; 1500 1 0 1" + due[shot]);
        }
        t.says(45, "Returns how many there are then.");
        RayLayers rays = ten();
        for (int left = 19; left >= 0; left--) {
            t.due("left", rays.dropShot(left % 2 == 0 ? left : 0), left);
        }
        t.dueIndex("none is left", () -> rays.dropShot(0));
    }

    private void keep() {
        t.says(46, SLOT, NO_SLOT);
        RayLayers rays = three();
        t.range("slot", 0, 1, INDEX, rays::keep);
        t.says(46, "Keeps everything that undo() restores, but what can be undone, in a slot, in place of what was there.");
        RayLayers full = Dump.full();
        String now = Dump.state(full);
        full.keep(1);
        t.due("keep() cannot be undone", full.undoCount(), 6);
        full.undo();
        full.undo();
        t.due("two steps less", full.undoCount(), 4);
        t.due("what is restored", full.restore(1), 3);
        t.due("everything", Dump.state(full), now);
        t.due("but what could be undone", full.undoCount(), 5);
        t.due("the other slot is as before", Dump.slot(full, 0), Dump.slot(Dump.full(), 0));
        full.setMirror(77);
        full.keep(1);
        full.setOpen(1000);
        full.restore(1);
        t.due("in place of what was there", full.property(3), 77);
        t.says(46, "Returns the number of shots.");
        t.due("none", new RayLayers().keep(0), 0);
        t.due("twenty", ten().keep(1), 20);
    }

    private void restore() {
        t.says(47, SLOT, NO_SLOT);
        RayLayers rays = three();
        rays.keep(0);
        rays.keep(1);
        t.range("slot", 0, 1, INDEX, rays::restore);
        t.says(47, "Makes everything as it was kept in a slot, which keeps it.", "Returns the number of shots then.");
        RayLayers most = ten();
        String kept = Dump.state(most);
        most.keep(0);
        Check.load(most, "layer 1000 thick 1;outside 4000;bottom mirror 0;");
        most.keep(1);
        for (int again = 0; again < 3; again++) {
            t.due("twenty shots", most.restore(0), 20);
            t.due("everything", Dump.state(most), kept);
            most.setLayer(9, 1, 999);
            most.dropShot(19);
            t.due("no shots", most.restore(1), 0);
            t.due("everything of the other one", Dump.state(most), "1 4000 1 0 0 1; 1000 1 0 0");
            most.setOutside(1000);
        }
        t.says(47, "Throws IllegalStateException if nothing is kept there");
        RayLayers none = three();
        t.dueState("slot 0", () -> none.restore(0));
        t.dueState("slot 1", () -> none.restore(1));
        none.keep(1);
        t.dueState("slot 0 with slot 1", () -> none.restore(0));
        t.due("slot 1", none.restore(1), 2);
        t.dueIndex("slot 2", () -> none.restore(2));
    }

    private void undo() {
        t.says(48, "Undoes the latest call that can be undone (section 3).", "Returns how many calls can still be undone.");
        RayLayers rays = new RayLayers();
        for (int step = 1; step <= 6; step++) {
            rays.setOutside(1000 + step);
        }
        for (int left = 5; left >= 0; left--) {
            t.due("left", rays.undo(), left);
            t.due("the step before", rays.property(1), 1000 + left);
        }
        t.says(48, "Throws IllegalStateException if there is nothing to undo");
        t.dueState("behind all", rays::undo);
        t.dueState("again", rays::undo);
        t.due("nothing is changed by that", rays.property(1), 1000);
        t.dueState("a new object", new RayLayers()::undo);
        RayLayers failed = new RayLayers();
        Check.load(failed, "layer");
        failed.keep(0);
        Check.outcome(() -> failed.setMirror(101));
        t.dueState("behind a bad text, keep() and a refused call", failed::undo);
        rays.setOutside(2000);
        t.due("one step again", rays.undo(), 0);
        t.due("an undone one cannot be undone", Check.outcome(rays::undo), "throws.IllegalStateException");
    }

    private void undoCount() {
        t.says(49, "Returns how many calls can be undone.");
        RayLayers rays = new RayLayers();
        t.due("a new object", rays.undoCount(), 0);
        int[] due = {1, 2, 3, 4, 5, 6, 6, 6, 6, 6, 6, 6, 6};
        for (int step = 0; step < due.length; step++) {
            rays.setMirror(step);
            t.due("behind " + (step + 1) + " steps", rays.undoCount(), due[step]);
        }
        for (int left = 5; left >= 0; left--) {
            rays.undo();
            t.due("behind undo()", rays.undoCount(), left);
        }
        Check.outcome(rays::undo);
        t.due("behind a refused undo()", rays.undoCount(), 0);
    }

    /** A call that can be undone, and the same call refused. */
    private void step(String name, Check.CallOn made, Check.CallOn refused) {
        RayLayers rays = Check.of("layer 1500 thick 10;layer 1300 thick 20;layer 1100 thick 30;shot 0 down 5;shot 1 up 6;");
        rays.keep(0);
        rays.setMirror(50);
        String before = Dump.state(rays);
        Check.outcome(() -> refused.answer(rays));
        t.due("refused: " + name, rays.undoCount(), 2);
        made.answer(rays);
        t.due("once: " + name, rays.undoCount(), 3);
        String behind = Dump.state(rays);
        made.answer(rays);
        t.due("twice: " + name, rays.undoCount(), 4);
        t.due("undo of the second: " + name, rays.undo(), 3);
        t.due("as behind the first: " + name, Dump.state(rays), behind);
        t.due("undo of the first: " + name, rays.undo(), 2);
        t.due("as ahead of it: " + name, Dump.state(rays), before);
    }

    private void whatCanBeUndone() {
        t.says(TERMS, "Each successful load(), and each call of addLayer(), removeLayer(), setLayer(), setOutside(), setOpen(), setMirror(), shoot(), turn(), "
                + "dropShot(), swapLayers() and restore() that does not throw (also if nothing changes) can be undone;");
        step("load()", rays -> Check.load(rays, "layer 1000 thick 1;"), rays -> Check.load(rays, "layer 999 thick 1;"));
        step("addLayer()", rays -> rays.addLayer(1, 1000, 1, 1), rays -> rays.addLayer(4, 1000, 1, 1));
        step("removeLayer()", rays -> rays.removeLayer(0), rays -> rays.removeLayer(3));
        step("setLayer()", rays -> rays.setLayer(0, 0, 1499), rays -> rays.setLayer(0, 0, 999));
        step("setLayer() to the same", rays -> rays.setLayer(0, 0, 1500), rays -> rays.setLayer(0, 3, 1500));
        step("setOutside()", rays -> rays.setOutside(1001), rays -> rays.setOutside(999));
        step("setOutside() to the same", rays -> rays.setOutside(1000), rays -> rays.setOutside(4001));
        step("setOpen()", rays -> rays.setOpen(1001), rays -> rays.setOpen(999));
        step("setMirror()", rays -> rays.setMirror(49), rays -> rays.setMirror(101));
        step("setMirror() to the same", rays -> rays.setMirror(50), rays -> rays.setMirror(-1));
        step("shoot()", rays -> rays.shoot(2, true, 0), rays -> rays.shoot(2, true, 1100));
        step("turn()", rays -> rays.turn(0, 3999), rays -> rays.turn(0, 4000));
        step("turn() to the same", rays -> rays.turn(0, 5), rays -> rays.turn(2, 5));
        step("dropShot()", rays -> rays.dropShot(0), rays -> rays.dropShot(2));
        step("swapLayers()", rays -> rays.swapLayers(0, 2), rays -> rays.swapLayers(0, 0));
        step("restore()", rays -> rays.restore(0), rays -> rays.restore(1));
        t.says(TERMS, "the last 6 are kept.");
        for (int steps = 1; steps <= 15; steps++) {
            RayLayers rays = new RayLayers();
            for (int step = 1; step <= steps; step++) {
                rays.setOutside(1000 + step);
            }
            int undone = 0;
            while (rays.undoCount() > 0) {
                rays.undo();
                undone++;
            }
            t.due("undone of " + steps, undone, Math.min(steps, 6));
            t.due("the oldest one of " + steps, rays.property(1), 1000 + Math.max(0, steps - 6));
        }
        RayLayers ring = new RayLayers();
        for (int round = 0; round < 5; round++) {
            for (int step = 0; step < 4; step++) {
                ring.setOutside(1000 + 10 * round + step);
            }
            ring.undo();
            ring.undo();
        }
        // Each round leaves two steps: 1040 and 1041 of the last one, then 1031 .. of those before.
        StringBuilder outsides = new StringBuilder();
        while (ring.undoCount() > 0) {
            ring.undo();
            outsides.append(ring.property(1)).append(' ');
        }
        t.due("steps and undone ones by turns", outsides.toString(), "1040 1031 1030 1021 ");
    }

    private void whatUndoRestores() {
        t.says(TERMS, "undo() restores everything except the two buffers, the parse error and the two slots.");
        RayLayers rays = Check.of("layer 1500 thick 10 loss 1;layer 1300 thick 20;outside 1100;bottom mirror 60;shot 0 down 100;");
        String before = Dump.state(rays);
        Check.load(rays, "layer 4000 thick 999 loss 99;bottom open 4000;" + "shot0up0;".repeat(20));
        Check.load(rays, "layer 1500 thick");
        rays.keep(0);
        rays.writeLayers();
        Check.put(rays, "layer 1111 thick 7;");
        t.due("undo()", rays.undo(), 1);
        t.due("everything", Dump.state(rays), before);
        t.due("except the output", Dump.output(rays), "4000x999|4000 throws.NoSuchElementException");
        t.due("except the parse error's code", rays.errorCode(), 1);
        t.due("except the parse error's position", rays.errorPosition(), 16);
        t.due("except the slots", rays.restore(0), 20);
        t.due("except the input's length", rays.append(0x20202020, 0x20202020, 0x20202020, 0x20202020, 0x20202020), 39);
        t.due("except the input", rays.load() + " " + rays.layer(0, 0), "1 1111");
        rays.undo();
        t.due("an error that is gone does not come back", rays.errorCode() + " " + rays.errorPosition(), "0 -1");
        rays.undo();
        rays.undo();
        t.due("all as at first", Dump.state(rays), "1 1000 0 1000 0 10; 1500 10 0 0");
        t.due("the slot is as before", rays.restore(0), 20);
    }
}
