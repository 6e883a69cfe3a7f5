/** Promises 50 to 52: what is written to the output buffer. */
final class WriteBounds {
    private final Check t;

    WriteBounds(Check t) {
        this.t = t;
    }

    void hold() {
        writeLayers();
        writePath();
        outputByte();
    }

    private void written(String text, String due) {
        RayLayers rays = Check.of(text);
        t.due("its length", rays.writeLayers(), due.length());
        t.due("layers of " + text, Dump.output(rays), due + " throws.NoSuchElementException");
    }

    private void writeLayers() {
        t.says(50, "Writes the layers to the output buffer, replacing its content: for each its index, the byte x and its thickness; separated by a slash; "
                + "behind them the byte | and the index of an open bottom, or the byte # and the percents of a mirror.", "Returns the length of the output.");
        written("layer 1000 thick 1;", "1000x1|1000");
        written("layer 4000 thick 999;bottom open 4000;", "4000x999|4000");
        written("layer 1009 thick 9;layer 1010 thick 10;layer 1099 thick 99;layer 1100 thick 100;bottom open 1001;",
                "1009x9/1010x10/1099x99/1100x100|1001");
        written("layer4000thick999;".repeat(10), "4000x999/".repeat(9) + "4000x999|1000");
        for (int percents : new int[] {0, 1, 9, 10, 11, 99, 100}) {
            written("layer 1000 thick 1;bottom mirror " + percents + ";", "1000x1#" + percents);
        }
        t.due("a new object", new RayLayers().writeLayers(), 12);
        RayLayers rays = Check.of("layer4000thick999;".repeat(10) + "shot 0 up 0;");
        rays.writeLayers();
        Check.load(rays, "layer 1000 thick 1;");
        t.due("less than before", rays.writeLayers(), 11);
        t.dueElement("byte 11", () -> rays.outputByte(11));
    }

    private void path(String name, RayLayers rays, int shot, String due) {
        t.due("its length", rays.writePath(shot), due.length());
        t.due(name, Dump.output(rays), due + " throws.NoSuchElementException");
    }

    private void writePath() {
        t.says(51, "shot: number of a shot", "Throws IndexOutOfBoundsException if there is no such shot");
        RayLayers most = Check.of("layer1000thick1;".repeat(10) + "shot9up7;".repeat(18) + "shot 0 down 0;shot 9 up 0;");
        t.range("one of twenty", 0, 19, "IndexOutOfBoundsException", most::writePath);
        t.dueIndex("shot 0 of none", () -> new RayLayers().writePath(0));
        t.says(51, "Writes the path of a shot to the output buffer, replacing its content: for each leg the byte v or ^ by its direction and the number of its layer; "
                + "behind them a byte by its end: t, b, a, r (trapped) or n (it cannot begin).", "Returns the length of the output.");
        path("all ten layers down", most, 18, "v0v1v2v3v4v5v6v7v8v9b");
        path("all ten layers up", most, 19, "^9^8^7^6^5^4^3^2^1^0t");
        most.setMirror(100);
        path("down and up", most, 18, "v0v1v2v3v4v5v6v7v8v9^9^8^7^6^5^4^3^2^1^0t");
        most.setMirror(0);
        path("down to a mirror of 0 percents", most, 18, "v0v1v2v3v4v5v6v7v8v9a");
        RayLayers rays = Check.of("layer 1500 thick 10;shot 0 down 1200;shot 0 up 1200;shot 0 up 999;shot 0 up 0;");
        path("sixty legs down", rays, 0, "v0^0".repeat(30) + "r");
        path("sixty legs up", rays, 1, "^0v0".repeat(30) + "r");
        path("one leg", rays, 2, "^0t");
        rays.turn(3, 1500);
        path("no legs", rays, 3, "n");
        rays.setMirror(64);
        rays.setLayer(0, 0, 1201);
        path("fifty-nine legs", rays, 0, "v0^0".repeat(29) + "v0a");
        path("sixty legs, and not absorbed", rays, 1, "^0v0".repeat(30) + "r");
    }

    private void outputByte() {
        t.says(52, "index: index into the output buffer", "Throws NoSuchElementException if there is no such byte");
        RayLayers rays = new RayLayers();
        t.refused("nothing is written", 0, -1, "NoSuchElementException", rays::outputByte);
        t.dueElement("byte 0 of nothing", () -> rays.outputByte(0));
        rays.writeLayers();
        t.range("one of twelve", 0, 11, "NoSuchElementException", rays::outputByte);
        rays.shoot(0, true, 0);
        rays.turn(0, 1500);
        rays.writePath(0);
        t.range("the only one", 0, 0, "NoSuchElementException", rays::outputByte);
        rays.turn(0, 1200);
        rays.writePath(0);
        t.range("one of the most of a path", 0, 120, "NoSuchElementException", rays::outputByte);
        RayLayers ten = Check.of("layer4000thick999;".repeat(10));
        ten.writeLayers();
        t.range("one of the most of layers", 0, 93, "NoSuchElementException", ten::outputByte);
        t.says(52, "Returns the byte at that index.");
        t.due("the first one", ten.outputByte(0), (int) '4');
        t.due("the x", ten.outputByte(4), (int) 'x');
        t.due("the slash", ten.outputByte(8), (int) '/');
        t.due("the bar", ten.outputByte(89), (int) '|');
        t.due("the last one", ten.outputByte(93), (int) '0');
        ten.setMirror(5);
        ten.writeLayers();
        t.due("the mirror", ten.outputByte(89) * 1000 + ten.outputByte(90), '#' * 1000 + '5');
        t.dueElement("behind the mirror's digit", () -> ten.outputByte(91));
    }
}
