import java.util.List;

/** "Terms 1" and promises 1 to 6: the input buffer, its text, and the text's errors. */
final class InputBounds {
    private static final String TERMS = "Terms 1";
    private static final String BASE = "layer 1500 thick 10;";
    private static final String SHOT = "shot 0 up 0;";
    private static final String BIG = "999999999999999999999999999999999999999999";

    private final Check t;

    InputBounds(Check t) {
        this.t = t;
    }

    void hold() {
        newObject();
        appending();
        truncating();
        loading();
        parseErrorOfTheLastLoad();
        buffer();
        words();
        numbers();
        symbols();
        layers();
        outside();
        bottom();
        shots();
        onceEach();
        order();
        positions();
        codes();
        grammar();
    }

    private void error(String text, int code, int position) {
        RayLayers rays = new RayLayers();
        String name = text.length() > 60 ? text.substring(0, 20) + ".." + text.substring(text.length() - 35) : text;
        t.due("load of " + name, Check.load(rays, text), -4);
        t.due("errorCode of " + name, rays.errorCode(), code);
        t.due("errorPosition of " + name, rays.errorPosition(), position);
    }

    private RayLayers good(String text) {
        RayLayers rays = new RayLayers();
        int layers = Check.load(rays, text);
        t.due("load of " + text + " has an error", layers < 0, false);
        t.due("errorCode of " + text, rays.errorCode(), 0);
        t.due("errorPosition of " + text, rays.errorPosition(), -1);
        return rays;
    }

    /** A number at the end of the text ahead of it: at its bounds it is good, one beyond it code 2, and more beyond too. */
    private void bounds(String ahead, int least, int most, String behind) {
        good(ahead + least + behind);
        good(ahead + (least + 1) + behind);
        good(ahead + (most - 1) + behind);
        good(ahead + most + behind);
        if (least > 0) {
            error(ahead + (least - 1) + behind, 2, ahead.length());
        }
        error(ahead + (most + 1) + behind, 2, ahead.length());
        error(ahead + BIG + behind, 2, ahead.length());
        // A number that an int or a long would take for the least or the greatest one.
        error(ahead + (4294967296L + least) + behind, 2, ahead.length());
        error(ahead + (4294967296L + most) + behind, 2, ahead.length());
        error(ahead + "1844674407370955" + (1616 + least) + behind, 2, ahead.length());
        good(ahead + "0000000000" + least + behind);
        good(ahead + "0" + most + behind);
    }

    private void newObject() {
        t.says(1, "Creates layers as described in the section on exceptions,");
        RayLayers rays = new RayLayers();
        t.due("its state", Dump.state(rays), Dump.state(Check.of(BASE)));
        t.due("its state by numbers", Dump.state(rays), "1 1000 0 1000 0 10; 1500 10 0 0");
        t.says(1, "with empty buffers and slots.");
        t.dueElement("the output's byte 0", () -> rays.outputByte(0));
        t.dueArgument("the input's byte 0", () -> { rays.truncate(1); return 0; });
        t.due("truncate(0)", Check.outcome(() -> { rays.truncate(0); return 0; }), 0);
        t.dueState("slot 0", () -> rays.restore(0));
        t.dueState("slot 1", () -> rays.restore(1));
        t.due("the first append()", rays.append(0, 0, 0, 0, 0), 20);
        t.due("two objects have nothing in common", new RayLayers().append(0, 0, 0, 0, 0), 20);
    }

    private void appending() {
        t.says(2, "Appends 20 bytes to the input buffer: the four bytes of each parameter, most significant byte first.");
        for (int place = 0; place < 20; place++) {
            RayLayers rays = new RayLayers();
            byte[] bytes = "                    ".getBytes(java.nio.charset.StandardCharsets.ISO_8859_1);
            bytes[place] = (byte) 255;
            rays.append(Check.word(bytes, 0), Check.word(bytes, 4), Check.word(bytes, 8), Check.word(bytes, 12), Check.word(bytes, 16));
            rays.load();
            t.due("the only byte that is not blank is byte " + place, rays.errorPosition(), place);
        }
        RayLayers rays = new RayLayers();
        rays.append(0x6c617965, 0x72203130, 0x30302074, 0x6869636b, 0x20313b20);
        t.due("layer 1000 thick 1; by its numbers", rays.load(), 1);
        t.due("its index", rays.layer(0, 0), 1000);
        t.says(2, "Returns the new length of the buffer.");
        for (int length = 20; length <= 400; length += 20) {
            t.due("append()", rays.append(-1, 0, Integer.MAX_VALUE, Integer.MIN_VALUE, 1), length);
        }
        t.says(2, "Throws IllegalStateException if the buffer would hold more than 400 bytes");
        t.dueState("at 400", () -> rays.append(0, 0, 0, 0, 0));
        for (int length : new int[] {399, 382, 381}) {
            rays.truncate(length);
            t.dueState("at " + length, () -> rays.append(0, 0, 0, 0, 0));
        }
        rays.truncate(380);
        t.due("at 380", rays.append(0, 0, 0, 0, 0), 400);
        rays.truncate(379);
        t.due("at 379", rays.append(0, 0, 0, 0, 0), 399);
        rays.load();
        t.due("behind load()", rays.append(0, 0, 0, 0, 0), 20);
    }

    private void truncating() {
        t.says(3, "length: the new length, 0 to the current length", "Throws IllegalArgumentException if length is out of range");
        for (int length : new int[] {20, 40, 400}) {
            t.taken("truncate of " + length, 0, length, value -> {
                filled(length).truncate(value);
                return 0;
            });
            t.refused("truncate of " + length, 0, length, "IllegalArgumentException", value -> {
                filled(length).truncate(value);
                return 0;
            });
        }
        RayLayers empty = new RayLayers();
        t.refused("truncate of 0", 0, 0, "IllegalArgumentException", value -> {
            empty.truncate(value);
            return 0;
        });
        t.says(3, "Cuts the input buffer to its first length bytes.");
        RayLayers rays = new RayLayers();
        Check.put(rays, BASE + "%");
        rays.truncate(20);
        t.dueArgument("to 21 behind 20", () -> { rays.truncate(21); return 0; });
        t.due("the first 20 bytes are there, byte 20 is not", rays.load(), 1);
        Check.put(rays, BASE + BASE);
        rays.truncate(39);
        rays.load();
        t.due("one byte less", rays.errorPosition(), 39);
        Check.put(rays, BASE + BASE);
        rays.truncate(0);
        rays.load();
        t.due("no byte", rays.errorPosition(), 0);
        Check.put(rays, "%" + BASE);
        rays.truncate(0);
        t.due("what is appended behind", Check.load(rays, BASE), 1);
        Check.put(rays, BASE + "%%%%");
        rays.truncate(20);
        t.due("what is cut does not come back", rays.append(0x20202020, 0x20202020, 0x20202020, 0x20202020, 0x20202020), 40);
        t.due("so the text is good", rays.load(), 1);
    }

    private static RayLayers filled(int length) {
        RayLayers rays = new RayLayers();
        for (int at = 0; at < length; at += 20) {
            rays.append(0, 0, 0, 0, 0);
        }
        return rays;
    }

    private void loading() {
        t.says(4, "Parses the input buffer and empties it.");
        RayLayers rays = new RayLayers();
        Check.load(rays, BASE);
        t.dueArgument("it is empty behind a good text", () -> { rays.truncate(1); return 0; });
        t.due("nothing more to parse", rays.load(), -4);
        Check.load(rays, BASE + "%");
        t.dueArgument("it is empty behind a bad text", () -> { rays.truncate(1); return 0; });
        t.due("nothing is left in front", Check.load(rays, BASE), 1);
        t.says(4, "On success everything but the two slots and the output buffer is that of the text.");
        RayLayers loaded = Dump.full();
        loaded.truncate(0);
        t.due("layers", Check.load(loaded, "layer 1234 thick 56;"), 1);
        t.due("all", Dump.state(loaded), "1 1000 0 1000 0 56; 1234 56 0 0");
        t.due("the error's code", loaded.errorCode(), 0);
        t.due("the error's position", loaded.errorPosition(), -1);
        t.due("the output is as before", Dump.output(loaded), Dump.output(Dump.full()));
        t.due("slot 0 is as before", Dump.slot(loaded, 0), Dump.slot(Dump.full(), 0));
        t.due("slot 1 is as before", Dump.slot(loaded, 1), Dump.slot(Dump.full(), 1));
        t.says(4, "Returns the number of layers;");
        for (int layers : new int[] {1, 2, 9, 10}) {
            t.due("load", Check.load(rays, BASE.repeat(layers)), layers);
            t.due("layers", rays.property(0), layers);
        }
        t.says(4, "PARSE_ERROR if there is a parse error (then only the buffer and the parse error change).");
        RayLayers failed = Dump.full();
        failed.truncate(0);
        t.due("the text layer", Check.load(failed, "layer"), -4);
        t.due("the error's code", failed.errorCode(), 1);
        t.due("the error's position", failed.errorPosition(), 5);
        RayLayers same = Dump.full();
        same.truncate(0);
        t.due("all else is as before", Dump.withoutInputAndError(failed), Dump.withoutInputAndError(same));
        RayLayers late = Dump.full();
        late.truncate(0);
        t.due("an error behind good statements", Check.load(late, "layer 1500 thick 5;outside 2000;bottom mirror 3;shot 0 up 1;shot 0 up 1500;"), -4);
        same = Dump.full();
        same.truncate(0);
        t.due("all else is as before too", Dump.withoutInputAndError(late), Dump.withoutInputAndError(same));
    }

    private void parseErrorOfTheLastLoad() {
        t.says(5, "Returns the code of the parse error of the last load(); 0 if it had none or there was no load().");
        RayLayers rays = new RayLayers();
        t.due("no load()", rays.errorCode(), 0);
        String[] texts = {"", "layer 0", BASE + "outside 1000;outside", BASE + "shot 1", BASE + "shot 0 up 1500", BASE.repeat(10) + "layer"};
        for (int code = 1; code <= 6; code++) {
            Check.load(rays, texts[code - 1]);
            t.due("the last one", rays.errorCode(), code);
        }
        Check.load(rays, BASE);
        t.due("it had none", rays.errorCode(), 0);
        t.says(6, "Returns the position of the parse error of the last load(); NONE if it had none or there was no load().");
        t.due("no load()", new RayLayers().errorPosition(), -1);
        t.due("it had none", rays.errorPosition(), -1);
        int[] positions = {0, 6, 33, 25, 30, 200};
        for (int text = 0; text < 6; text++) {
            Check.load(rays, texts[text]);
            t.due("the last one", rays.errorPosition(), positions[text]);
        }
        Check.load(rays, BASE);
        t.due("the last one had none", rays.errorPosition(), -1);
        Check.load(rays, "%");
        t.due("position 0 is not NONE", rays.errorPosition(), 0);
    }

    private void buffer() {
        t.says(TERMS, "The input buffer holds at most 400 bytes.");
        t.due("a statement that ends with byte 399", Check.load(new RayLayers(), " ".repeat(380) + BASE), 1);
        error(BASE + " ".repeat(379) + "%", 1, 399);
        error(BASE + " ".repeat(360) + "layer 1500 thick 10 ", 1, 400);
        error(BASE + " ".repeat(360) + "layer 1500 thick 100", 1, 400);
        error(BASE + " ".repeat(375) + "layer", 1, 400);
        t.due("a number that fills the buffer", Check.load(new RayLayers(), "layer " + "0".repeat(381) + "1500 thick 1;"), 1);
        t.says(TERMS, "load() parses it as a text of one or more statements; each statement ends with ';'.");
        error("", 1, 0);
        error(" ", 1, 1);
        error("\n", 1, 1);
        error(";", 1, 0);
        good(BASE);
        good(BASE + BASE);
        error(BASE + ";", 1, 20);
        error(BASE.substring(0, 19), 1, 19);
        error(BASE + "outside 1000", 1, 32);
        error(BASE + "bottom open 1000", 1, 36);
        error(BASE + "shot 0 up 0", 1, 31);
        error("layer 1500 thick 10 layer 1500 thick 10;", 1, 20);
    }

    private void words() {
        t.says(TERMS, "Tokens: a word is a maximal run of lowercase letters a-z;");
        error("layers 1500 thick 10;", 1, 0);
        error("laye 1500 thick 10;", 1, 0);
        error("lay er 1500 thick 10;", 1, 0);
        error("Layer 1500 thick 10;", 1, 0);
        error("layeR 1500 thick 10;", 1, 0);
        // The bytes next to the letters: @ and [ to the great ones, ` and { to the small ones.
        error("layer@1500 thick 10;", 1, 5);
        error("layer[1500 thick 10;", 1, 5);
        error("layer`1500 thick 10;", 1, 5);
        error("layer{1500 thick 10;", 1, 5);
        error("layera 1500 thick 10;", 1, 0);
        error("layerz 1500 thick 10;", 1, 0);
        error("alayer 1500 thick 10;", 1, 0);
        eachLetter("", "layer", " 1500 thick 10;");
        eachLetter("layer 1500 ", "thick", " 10;");
        eachLetter("layer 1500 thick 10 ", "loss", " 0;");
        eachLetter(BASE, "outside", " 1000;");
        eachLetter(BASE, "bottom", " open 1000;");
        eachLetter(BASE + "bottom ", "open", " 1000;");
        eachLetter(BASE + "bottom ", "mirror", " 0;");
        eachLetter(BASE, "shot", " 0 up 0;");
        eachLetter(BASE + "shot 0 ", "up", " 0;");
        eachLetter(BASE + "shot 0 ", "down", " 0;");
        error(BASE + "shot 0 updown 0;", 1, 27);
        error(BASE + "shot 0 up" + "a".repeat(300), 1, 27);
    }

    /** A word is another one with another letter at any place, with one letter less, and with one more. */
    private void eachLetter(String ahead, String word, String behind) {
        for (int place = 0; place < word.length(); place++) {
            char other = word.charAt(place) == 'z' ? 'y' : (char) (word.charAt(place) + 1);
            error(ahead + word.substring(0, place) + other + word.substring(place + 1) + behind, 1, ahead.length());
            error(ahead + word.substring(0, place) + word.substring(place + 1) + behind, 1, ahead.length());
            error(ahead + word.substring(0, place) + 'q' + word.substring(place) + behind, 1, ahead.length());
        }
        error(ahead + word + "q" + behind, 1, ahead.length());
        good(ahead + word + behind);
    }

    private void numbers() {
        t.says(TERMS, "a number is a maximal run of decimal digits, of any length;");
        good("layer 1500 thick 9;");
        error("layer 1500 thick 9" + "9".repeat(380) + ";", 2, 17);
        good("layer " + "0".repeat(370) + "1500 thick 9;");
        error("layer 15 00 thick 10;", 2, 6);
        error("layer 1500 0 thick 10;", 1, 11);
        error("layer 1500 thick 1 0;", 1, 19);
        // The bytes next to the digits: / and :.
        error("layer 1500 thick 10/", 1, 19);
        error("layer 1500 thick /10", 1, 17);
        error("layer 1500 thick :10", 1, 17);
        error("layer 1500 thick 10:", 1, 19);
        error("layer 1500 thick -1;", 1, 17);
        error("layer 1500 thick +1;", 1, 17);
        error("layer 1500 thick 1.0;", 1, 18);
        for (long wrap : new long[] {2147483647L, 2147483648L, 4294967295L, 4294967296L, Long.MAX_VALUE}) {
            error("layer " + wrap + " thick 10;", 2, 6);
            error("layer 1500 thick " + wrap + ";", 2, 17);
        }
        // 2 to the 32nd and to the 64th, plus 1500.
        error("layer 4294968796 thick 10;", 2, 6);
        error("layer 18446744073709553116 thick 10;", 2, 6);
    }

    private void symbols() {
        t.says(TERMS, "each other byte except space (32) and newline (10) is a symbol of its own.");
        int[] others = {0, 1, 9, 11, 12, 13, 31, 33, 47, 58, 59, 64, 65, 90, 91, 96, 123, 127, 128, 160, 170, 178, 185, 224, 254, 255};
        for (int other : others) {
            error(BASE + (char) other, 1, 20);
            error(BASE + "  " + (char) other + "layer", 1, 22);
            if (other != ';') {
                error("layer 1500 thick 10" + (char) other + ";", 1, 19);
            }
        }
        error("layer 1500 thick 10;;", 1, 20);
        t.says(TERMS, "Spaces and newlines only separate tokens.");
        good("layer1500thick10loss5;outside1000;bottom\nopen1000;shot0up0;");
        good(" \n \nlayer\n\n1500 \n thick\n10  \n;\n\n  ");
        error("lay\ner 1500 thick 10;", 1, 0);
        error("layer 15\n00 thick 10;", 2, 6);
        error("layer 1500\n0 thick 10;", 1, 11);
        error("layer 1500 thick\n10; %", 1, 21);
        t.says(TERMS, "[ ] means that something may be left out, ( | ) is a choice. The statements are:");
        good("layer 1500 thick 10 loss 0;");
        error("layer 1500 thick 10 [ loss 0 ];", 1, 20);
        error(BASE + "shot 0 (down) 1;", 1, 27);
        error(BASE + "shot 0 up down 1;", 1, 30);
        error(BASE + "bottom open 1000 mirror 5;", 1, 37);
    }

    private void layers() {
        t.says(TERMS, "layer N thick N [ loss N ] a layer below those told ahead:");
        RayLayers rays = good("layer 1001 thick 1;layer 1002 thick 2 loss 3;");
        t.due("the upper one", rays.layer(0, 0), 1001);
        t.due("the lower one", rays.layer(1, 0) * 10 + rays.layer(1, 2), 10023);
        t.says(TERMS, "its index, 1000 to 4000, its thickness, 1 to 999, and its loss, 0 to 99;");
        bounds("layer ", 1000, 4000, " thick 10;");
        bounds("layer 1500 thick ", 1, 999, ";");
        bounds("layer 1500 thick 10 loss ", 0, 99, ";");
        bounds(BASE + "layer 1500 thick ", 1, 999, "loss 99;");
        error("layer 0 thick 10;", 2, 6);
        RayLayers ends = good("layer 1000 thick 1 loss 0;layer 4000 thick 999 loss 99;");
        t.due("their numbers", Dump.state(ends), "2 1000 0 1000 0 1000; 1000 1 0 0; 4000 999 99 1");
        t.says(TERMS, "0 without it.");
        t.due("without a loss, behind one with a loss", good("layer 1500 thick 10 loss 9;layer 1500 thick 10;").layer(1, 2), 0);
        t.says(TERMS, "At most 10;");
        t.due("9", Check.load(new RayLayers(), BASE.repeat(9)), 9);
        t.due("10", Check.load(new RayLayers(), BASE.repeat(10)), 10);
        error(BASE.repeat(11), 6, 200);
        error(BASE.repeat(10) + "outside 1000;layer", 6, 213);
        t.due("10 and other statements", Check.load(new RayLayers(), BASE.repeat(10) + "outside 1000;bottom mirror 0;" + SHOT.repeat(10)), 10);
        t.says(TERMS, "the first statement is one");
        error(SHOT, 1, 0);
        error("outside 1000;" + BASE, 1, 0);
        error("bottom open 1000;" + BASE, 1, 0);
        good(BASE + "outside 1000;");
        good(BASE + SHOT + BASE);
    }

    private void outside() {
        t.says(TERMS, "outside N the index above the layers, 1000 to 4000;");
        bounds(BASE + "outside ", 1000, 4000, ";");
        t.due("the least one", good(BASE + "outside 1000;").property(1), 1000);
        t.due("the greatest one", good(BASE + "outside 4000;").property(1), 4000);
        t.says(TERMS, "1000 without it");
        RayLayers rays = good(BASE + "outside 4000;");
        Check.load(rays, BASE);
        t.due("without it, behind a text with it", rays.property(1), 1000);
    }

    private void bottom() {
        t.says(TERMS, "bottom ( open N | mirror N ) what is below the layers: open with an index, 1000 to 4000,");
        bounds(BASE + "bottom open ", 1000, 4000, ";");
        RayLayers open = good(BASE + "bottom open 4000;");
        t.due("the greatest one", open.property(2) * 10000 + open.property(3), 4000);
        t.due("the least one", good(BASE + "bottom open 1000;").property(3), 1000);
        t.says(TERMS, "or a mirror that reflects so many percent, 0 to 100;");
        bounds(BASE + "bottom mirror ", 0, 100, ";");
        RayLayers mirror = good(BASE + "bottom mirror 0;");
        t.due("none", mirror.property(2) * 1000 + mirror.property(3), 1000);
        mirror = good(BASE + "bottom mirror 100;");
        t.due("all", mirror.property(2) * 1000 + mirror.property(3), 1100);
        t.says(TERMS, "open 1000 without it");
        Check.load(mirror, BASE);
        t.due("without it, behind a text with a mirror", mirror.property(2) * 10000 + mirror.property(3), 1000);
        Check.load(open, BASE);
        t.due("without it, behind a text with it", open.property(3), 1000);
    }

    private void shots() {
        String ten = "layer1500thick1;".repeat(10);
        t.says(TERMS, "shot N ( down | up ) N a shot: the number of a layer told ahead, its direction, and its slant, 0 to 3999.");
        good(BASE + "shot 0 up 0;");
        error(BASE + "shot 1 up 0;", 4, 25);
        error(BASE.repeat(9) + "shot 9 up 0;", 4, 185);
        good(BASE.repeat(9) + "shot 8 up 0;");
        good(ten + "shot 9 up 0;");
        error(ten + "shot 10 up 0;", 2, 165);
        good("layer 4000 thick 1;shot 0 up 3999;");
        error("layer 4000 thick 1;shot 0 up 4000;", 2, 29);
        RayLayers rays = good(BASE + "shot 0 up 1499;shot 0 down 0;");
        t.due("up", rays.shot(0, 1) * 10000 + rays.shot(0, 2), 1499);
        t.due("down", rays.shot(1, 1) * 10000 + rays.shot(1, 2), 10000);
        t.says(TERMS, "At most 20");
        t.due("19", good(BASE + SHOT.repeat(19)).property(4), 19);
        t.due("20", good(BASE + SHOT.repeat(20)).property(4), 20);
        error(BASE + SHOT.repeat(21), 6, 260);
        RayLayers most = good(ten + "shot9up7;".repeat(20));
        t.due("20 shots and 10 layers", most.property(4) * 100 + most.property(0), 2010);
        Check.load(most, BASE + SHOT.repeat(20));
        t.due("the shots of the text before do not count", most.property(4), 20);
    }

    private void onceEach() {
        t.says(TERMS, "outside and bottom come at most once each.");
        good(BASE + "outside 1000;bottom open 1000;");
        good(BASE + "bottom mirror 0;outside 1000;");
        error(BASE + "outside 1000;outside 1000;", 3, 33);
        error(BASE + "bottom open 1000;bottom open 1000;", 3, 37);
        error(BASE + "bottom open 1000;bottom mirror 0;", 3, 37);
        error(BASE + "bottom mirror 0;outside 1000;" + BASE + "bottom", 3, 69);
        RayLayers rays = good(BASE + "outside 2000;bottom mirror 5;");
        t.due("once in each text", Check.load(rays, BASE + "outside 2000;bottom mirror 5;"), 1);
        t.says(TERMS, "Layers are numbered from 0, from the top; shots from 0.");
        rays = good("layer 1001 thick 1;layer 1002 thick 1;shot 0 up 5;layer 1003 thick 1;shot 2 up 6;");
        t.due("layers", rays.layer(0, 0) + " " + rays.layer(1, 0) + " " + rays.layer(2, 0), "1001 1002 1003");
        t.due("shots", rays.shot(0, 2) + " " + rays.shot(1, 2), "5 6");
        t.due("layers of shots", rays.shot(0, 0) + " " + rays.shot(1, 0), "0 2");
    }

    private void order() {
        t.says(TERMS, "The parser reads tokens from left to right and stops at the first token that has an error;");
        error("layer 999 thick 0 loss 100 %", 2, 6);
        error("layer 1500 thick 0 loss 100 %", 2, 17);
        error("layer 1500 thick 1 loss 100 %", 2, 24);
        error(BASE + "shot 1 left 4000", 4, 25);
        error(BASE + "shot 0 left 4000", 1, 27);
        error(BASE + "shot 1 down 0;" + BASE, 4, 25);
        error(BASE + "shot 0 up 1499;layer 4000 thick 1;shot 1 up 4000;", 2, 64);
        error(BASE + "outside 1000;outside 999;", 3, 33);
        t.says(TERMS, "if that token has several errors, the smallest code counts.");
        error(BASE + "shot 10 up 0;", 2, 25);
        error(BASE + "shot 0 up 4000;", 2, 30);
        error(BASE + "outside 1000 outside 1000;", 1, 33);
        error(BASE + "bottom bottom open 1000;", 1, 27);
        error(BASE + "bottom open 1000 bottom", 1, 37);
        error(BASE.repeat(10) + "outside layer", 1, 208);
        error(BASE.repeat(9) + "layer 1500 thick 10 layer", 1, 200);
        error(BASE + SHOT.repeat(19) + "shot 0 up 0 shot", 1, 260);
        error("outside 1000;", 1, 0);
    }

    private void positions() {
        t.says(TERMS, "The error position is the offset of the token's first byte; for the end of the text it is the text's length.");
        error("%", 1, 0);
        error(" %", 1, 1);
        error("  layer   abc", 1, 10);
        error("  layer   0999 thick", 2, 10);
        error("layer", 1, 5);
        error("layer ", 1, 6);
        error("layer \n  ", 1, 9);
        error("layer 1500 thick 10   ", 1, 22);
        error(BASE + " ".repeat(379) + "x", 1, 399);
        error(BASE + " ".repeat(360) + "layer 1500 thick 10 ", 1, 400);
    }

    private void codes() {
        t.says(TERMS, "Codes: 1 the token cannot stand here (also the end of an empty text, and another first word of the text than layer)");
        error("", 1, 0);
        error("   ", 1, 3);
        for (String first : List.of("shot", "outside", "bottom", "thick", "loss", "open", "mirror", "up", "down", "x", "0", ";")) {
            error(first, 1, 0);
        }
        t.says(TERMS, "2 a number is out of range (of the layer of a shot: 10 or more)");
        error(BASE + "shot 10 up 0;", 2, 25);
        error(BASE + "shot 11 up 0;", 2, 25);
        error(BASE + "shot " + BIG + " up 0;", 2, 25);
        error(BASE + "shot 4294967296 up 0;", 2, 25);
        error(BASE.repeat(10) + "shot 10 up 0;", 2, 205);
        error(BASE + "shot 9 up 0;", 4, 25);
        good(BASE + "shot 00000000 up 0;");
        t.says(TERMS, "3 the word outside or bottom a second time");
        error(BASE + "outside 1000;outside", 3, 33);
        error(BASE + "bottom mirror 0;bottom", 3, 36);
        error(BASE + "outside 1000;bottom mirror 0;outside", 3, 49);
        error(BASE + "outside 1000;bottom mirror 0;bottom", 3, 49);
        t.says(TERMS, "4 the layer of a shot that is not told ahead");
        error(BASE + "shot 1", 4, 25);
        error(BASE + "shot 9", 4, 25);
        error(BASE + "shot 1 up 0;" + BASE, 4, 25);
        error(BASE + BASE + "shot 2 up 0;", 4, 45);
        good(BASE + BASE + "shot 1 up 0;");
        good(BASE + "shot 0 up 0;" + BASE);
        t.says(TERMS, "5 a slant that is not less than the index of its layer");
        for (String way : List.of("up", "down")) {
            int position = BASE.length() + 8 + way.length();
            good(BASE + "shot 0 " + way + " 1499;");
            error(BASE + "shot 0 " + way + " 1500;", 5, position);
            error(BASE + "shot 0 " + way + " 1501;", 5, position);
            error(BASE + "shot 0 " + way + " 3999;", 5, position);
            error(BASE + "shot 0 " + way + " 4000;", 2, position);
        }
        good("layer 1000 thick 1;layer 4000 thick 1;shot 1 up 3999;");
        error("layer 1000 thick 1;layer 4000 thick 1;shot 0 up 1000;", 5, 48);
        error("layer 4000 thick 1;layer 1000 thick 1;shot 1 up 1000;", 5, 48);
        t.says(TERMS, "6 the word layer an 11th time, shot a 21st time");
        error(BASE.repeat(10) + "layer", 6, 200);
        error(BASE + SHOT.repeat(20) + "shot", 6, 260);
        error(BASE.repeat(10) + "layers", 1, 200);
        error(BASE + SHOT.repeat(20) + "shots", 1, 260);
        error(BASE.repeat(10) + "layer 999 thick 0;", 6, 200);
        error(BASE + SHOT.repeat(20) + "shot 10 up 4000;", 6, 260);
    }

    /** At each place of each statement, all tokens that cannot stand there. */
    private void grammar() {
        t.says(TERMS, "1 the token cannot stand here");
        standOnly("", "layer");
        standOnly("layer ", "5");
        standOnly("layer 1500 ", "thick");
        standOnly("layer 1500 thick ", "5");
        standOnly("layer 1500 thick 10 ", "loss", ";");
        standOnly("layer 1500 thick 10 loss ", "5");
        standOnly("layer 1500 thick 10 loss 5 ", ";");
        standOnly(BASE, "layer", "outside", "bottom", "shot", "");
        standOnly(BASE + "outside ", "5");
        standOnly(BASE + "outside 1000 ", ";");
        standOnly(BASE + "bottom ", "open", "mirror");
        standOnly(BASE + "bottom open ", "5");
        standOnly(BASE + "bottom mirror ", "5");
        standOnly(BASE + "bottom open 1000 ", ";");
        standOnly(BASE + "bottom mirror 10 ", ";");
        standOnly(BASE + "shot ", "5");
        standOnly(BASE + "shot 0 ", "down", "up");
        standOnly(BASE + "shot 0 down ", "5");
        standOnly(BASE + "shot 0 up ", "5");
        standOnly(BASE + "shot 0 up 5 ", ";");
    }

    private void standOnly(String ahead, String... allowed) {
        for (String token : List.of("layer", "thick", "loss", "outside", "bottom", "open", "mirror", "shot", "down", "up", "x", "5", ";", "%", "")) {
            if (!List.of(allowed).contains(token)) {
                error(ahead + token, 1, ahead.length());
            }
        }
    }
}
