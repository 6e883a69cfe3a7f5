/** What can be asked of an object, as a text: two objects with the same dump are alike for all calls to come. */
final class Dump {
    private Dump() {
    }

    /** All that undo() restores; asking for it changes nothing. */
    static String state(RayLayers rays) {
        StringBuilder state = new StringBuilder();
        for (int what = 0; what < 6; what++) {
            state.append(what == 0 ? "" : " ").append(rays.property(what));
        }
        for (int layer = 0; layer < rays.property(0); layer++) {
            state.append("; ").append(rays.layer(layer, 0));
            for (int what = 1; what < 4; what++) {
                state.append(' ').append(rays.layer(layer, what));
            }
        }
        for (int shot = 0; shot < rays.property(4); shot++) {
            state.append("; >").append(rays.shot(shot, 0)).append(' ').append(rays.shot(shot, 1)).append(' ').append(rays.shot(shot, 2));
        }
        return state.toString();
    }

    /** The output buffer, to the first byte that is not there. */
    static String output(RayLayers rays) {
        StringBuilder output = new StringBuilder();
        for (int index = 0; index <= 400; index++) {
            int at = index;
            Object value = Check.outcome(() -> rays.outputByte(at));
            if (!(value instanceof Integer)) {
                return output.append(' ').append(value).toString();
            }
            output.append((char) (int) (Integer) value);
        }
        return output.toString();
    }

    /** What is kept in a slot; the object is as before behind it, but for the oldest of six steps to undo. */
    static String slot(RayLayers rays, int slot) {
        Object shots = Check.outcome(() -> rays.restore(slot));
        if (!(shots instanceof Integer)) {
            return shots.toString();
        }
        String kept = state(rays);
        rays.undo();
        return kept;
    }

    /** All states back to the first one; nothing can be undone then. */
    private static String past(RayLayers rays) {
        StringBuilder past = new StringBuilder();
        for (int left = rays.undoCount(); left > 0; left--) {
            past.append("\n  ").append(rays.undo()).append(": ").append(state(rays));
        }
        return past.append("\n  ").append(Check.outcome(rays::undo)).toString();
    }

    /** The input buffer: how many bytes it has, and what load() makes of them. */
    private static String input(RayLayers rays) {
        Object length = Check.outcome(() -> rays.append(0x20202020, 0x20202020, 0x20202020, 0x20202020, 0x20202020));
        if (length instanceof Integer) {
            rays.truncate((Integer) length - 20);
        }
        return length + " " + rays.load() + " " + rays.errorCode() + " " + rays.errorPosition() + " " + state(rays);
    }

    private static String slots(RayLayers rays) {
        return "\nslot 0: " + slot(rays, 0) + "\nslot 1: " + slot(rays, 1);
    }

    private static String error(RayLayers rays) {
        return "\nerror: " + rays.errorCode() + " " + rays.errorPosition();
    }

    /** Everything but the input buffer and the parse error; the object is of no use behind it. */
    static String withoutInputAndError(RayLayers rays) {
        return "output: " + output(rays) + "\nnow: " + state(rays) + "\npast:" + past(rays) + slots(rays);
    }

    /** Everything but the two slots; the object is of no use behind it. */
    static String withoutSlots(RayLayers rays) {
        return "output: " + output(rays) + error(rays) + "\nnow: " + state(rays) + "\npast:" + past(rays) + "\ninput: " + input(rays);
    }

    /** Everything but the output buffer; the object is of no use behind it. */
    static String withoutOutput(RayLayers rays) {
        return "now: " + state(rays) + error(rays) + "\npast:" + past(rays) + slots(rays) + "\ninput: " + input(rays);
    }

    /** Everything; the object is of no use behind it. */
    static String everything(RayLayers rays) {
        return error(rays) + "\n" + withoutInputAndError(rays) + "\ninput: " + input(rays);
    }

    interface Maker {
        RayLayers make();
    }

    /** An object with six steps to undo, two slots, a parse error, bytes to parse and an output. */
    static RayLayers full() {
        RayLayers rays = Check.of("layer 1500 thick 10 loss 1;layer 1300 thick 20;layer 2000 thick 30 loss 3;"
                + "outside 1100;bottom mirror 60;shot 0 down 100;shot 2 up 1900;shot 1 up 5;");
        rays.keep(0);
        rays.setOpen(1200);
        rays.setLayer(0, 1, 11);
        rays.turn(0, 200);
        rays.keep(1);
        rays.addLayer(1, 1400, 40, 4);
        rays.setOutside(1050);
        rays.dropShot(2);
        rays.shoot(3, true, 7);
        Check.load(rays, "layer 1500 thick 5;;");
        rays.writePath(2);
        Check.put(rays, "layer 1111 thick 7;");
        return rays;
    }

    /** A full object, but with as many layers and shots as there can be, and a full input buffer. */
    static RayLayers brimful() {
        RayLayers rays = Check.of("layer1500thick1;".repeat(10) + "shot9up7;".repeat(20));
        rays.keep(0);
        rays.setMirror(3);
        Check.load(rays, "layer 7");
        rays.writeLayers();
        Check.put(rays, " ".repeat(380) + "layer 1500 thick 10;");
        return rays;
    }
}
