/** Promises 25 to 35: the shots' ends, times and powers, what two of them have in common, and what would be. */
final class ShotBounds {
    private static final String INDEX = "IndexOutOfBoundsException";
    private static final String ARGUMENT = "IllegalArgumentException";
    private static final String SHOT = "shot: number of a shot";
    private static final String NO_SHOT = "Throws IndexOutOfBoundsException if there is no such shot";
    private static final String LAYER = "layer: number of a layer";

    private final Check t;

    ShotBounds(Check t) {
        this.t = t;
    }

    void hold() {
        count();
        first();
        strongest();
        alike();
        together();
        legsIn();
        busiest();
        meanIndex();
        share();
        endIf();
        bestWithout();
    }

    private static RayLayers twenty(String shots) {
        return Check.of("layer 1500 thick 10;layer 1500 thick 10;" + shots);
    }

    private void shotsOf(String name, Check.CallWith ofTwenty, Check.CallWith ofNone) {
        t.range(name + " of one of twenty", 0, 19, INDEX, ofTwenty);
        for (int shot : new int[] {-1, 0, 1}) {
            t.dueIndex(name + " of none, shot " + shot, () -> ofNone.answer(shot));
        }
    }

    private void twoShots(int promise, String name, Check.CallWith other, Check.CallWith shot, Check.CallWith same) {
        t.says(promise, SHOT, "other: another shot", NO_SHOT);
        t.range(name + " of shot 20 and one of twenty", 0, 18, INDEX, value -> value > 18 ? other.answer(value + 1) : other.answer(value));
        t.range(name + " of one of twenty and shot 20", 0, 18, INDEX, value -> value > 18 ? shot.answer(value + 1) : shot.answer(value));
        t.says(promise, "Throws IllegalArgumentException if both are the same");
        for (int both : new int[] {0, 1, 19}) {
            t.dueArgument(name + " of " + both + " and " + both, () -> same.answer(both));
        }
        t.dueIndex(name + " of 20 and 20", () -> same.answer(20));
        t.dueIndex(name + " of -1 and -1", () -> same.answer(-1));
    }

    private void count() {
        t.says(25, "end: TOP, BOTTOM, ABSORBED, TRAPPED or NO_BEGIN", "Throws IllegalArgumentException if end is out of range");
        RayLayers rays = twenty("shot0up0;".repeat(20));
        t.range("end", 0, 4, ARGUMENT, rays::count);
        RayLayers none = new RayLayers();
        t.range("end without shots", 0, 4, ARGUMENT, none::count);
        t.says(25, "Returns how many shots have this end.");
        StringBuilder counts = new StringBuilder();
        for (int end = 0; end <= 4; end++) {
            t.due("no shots with end " + end, none.count(end), 0);
            t.due("twenty with end 0, asked for " + end, rays.count(end), end == 0 ? 20 : 0);
        }
        rays.setLayer(0, 0, 1000);
        rays.turn(19, 1000);
        t.due("one of twenty cannot begin", rays.count(0) * 100 + rays.count(4), 1901);
        RayLayers five = Check.of("layer 1500 thick 10;layer 1000 thick 880 loss 50;shot 0 up 0;shot 0 down 0;shot 1 up 999;shot 0 up 1000;shot 1 up 0;");
        five.turn(4, 1000);
        for (int end = 0; end <= 4; end++) {
            counts.append(five.count(end));
        }
        t.due("one of each end", counts.toString(), "11111");
    }

    private void first() {
        t.says(26, "Returns the shot that is out at the top or the bottom in the least time, the lowest one of several; NONE without any.");
        t.due("no shots", new RayLayers().first(), -1);
        // Shots 0 to 2 are trapped, absorbed and without legs.
        RayLayers rays = Check.of("layer 1500 thick 100;layer 2000 thick 880 loss 99;outside 1000;bottom open 1000;"
                + "shot 0 up 1200;shot 1 up 1999;shot 0 up 0;");
        rays.turn(2, 1500);
        t.due("none is out", "" + rays.path(0, 1) + rays.path(1, 1) + rays.path(2, 1) + rays.first(), "324-1");
        rays.shoot(1, true, 0);
        t.due("the only one, at the bottom", rays.first(), 3);
        rays.shoot(0, false, 0);
        t.due("one in less time, at the top", rays.first(), 4);
        rays.shoot(0, false, 0);
        t.due("the same time: the lowest one", rays.first(), 4);
        RayLayers times = Check.of("layer 1000 thick 100;layer 1000 thick 100;shot 0 up 0;shot 1 down 0;");
        t.due("the same time at top and bottom", times.first(), 0);
        times.setLayer(0, 1, 101);
        t.due("less by 1", times.first(), 1);
        times.setLayer(0, 1, 99);
        t.due("more by 1", times.first(), 0);
        RayLayers last = twenty("shot1up0;".repeat(19) + "shot0up0;");
        t.due("the last of twenty", last.first(), 19);
    }

    private void strongest() {
        t.says(27, "Returns the shot with the greatest power at its end of those that are out, the lowest one of several; NONE without any.");
        t.due("no shots", new RayLayers().strongest(), -1);
        RayLayers rays = Check.of("layer 1500 thick 100;layer 1250 thick 800 loss 99;bottom open 1247;shot 0 up 1400;shot 0 down 0;");
        rays.turn(1, 1500);
        t.due("none is out", "" + rays.path(0, 1) + rays.path(1, 1) + rays.strongest(), "34-1");
        rays.shoot(1, true, 1246);
        t.due("the only one, of power 1", rays.strongest() * 10 + rays.path(2, 5), 21);
        rays.setLayer(1, 1, 801);
        t.due("it is absorbed, of power 0", rays.strongest(), -1);
        RayLayers powers = Check.of("layer 1000 thick 100 loss 1;layer 1000 thick 100 loss 1;shot 0 up 0;shot 1 down 0;");
        t.due("the same power: the lowest one", powers.strongest(), 0);
        powers.setLayer(0, 1, 101);
        t.due("more power by 1", powers.strongest() * 10 + powers.path(1, 5) - powers.path(0, 5), 11);
        powers.setLayer(0, 1, 99);
        t.due("less power by 1", powers.strongest(), 0);
        t.due("all power, the last of twenty", Check.of("layer 1500 thick 10;layer 1500 thick 10 loss 1;" + "shot1up0;".repeat(19) + "shot0up0;").strongest(), 19);
        eachOfSix();
    }

    /** Six shots up, all through the same loss but one: that one is out first, and with the most power. */
    private void eachOfSix() {
        for (int best = 0; best < 6; best++) {
            RayLayers rays = Check.of("layer 1500 thick 10;layer 1500 thick 10 loss 9;" + "shot1up0;".repeat(best) + "shot0up0;" + "shot1up0;".repeat(5 - best));
            t.due("shot " + best + " of six", best(rays), best);
            RayLayers none = Check.of("layer 1500 thick 10 loss 9;layer 1500 thick 10;bottom open 1000;"
                    + "shot1up1000;".repeat(best) + "shot0up0;" + "shot1up1000;".repeat(5 - best));
            none.setOutside(1000);
            t.due("shot " + best + ", the only one of six that is out", best(none), best);
        }
    }

    /** The number that first() and strongest() both tell; NONE if they tell others. */
    private static int best(RayLayers rays) {
        return rays.first() == rays.strongest() ? rays.first() : RayLayers.NONE;
    }

    private void alike() {
        RayLayers most = twenty("shot0up0;".repeat(20));
        twoShots(28, "alike", shot -> most.alike(19, shot), shot -> most.alike(shot, 19), shot -> most.alike(shot, shot));
        t.says(28, "Returns how many legs both have alike from the first one on (layer and direction).");
        t.due("all of one leg", most.alike(0, 19), 1);
        RayLayers rays = Check.of("layer 1500 thick 10;layer 1500 thick 20;layer 1500 thick 30;"
                + "shot 0 down 0;shot 0 down 999;shot 0 up 0;shot 1 down 0;shot 1 up 0;shot 0 down 1000;shot 0 down 1499;shot 0 up 1000;");
        t.due("all of three, slants do not matter", rays.alike(0, 1), 3);
        t.due("none, by the direction", rays.alike(0, 2), 0);
        t.due("none, by the layer", rays.alike(0, 3), 0);
        t.due("none, by both", rays.alike(0, 4), 0);
        t.due("three of three and sixty", rays.alike(0, 5), 3);
        t.due("three of sixty and three", rays.alike(5, 0), 3);
        t.due("all sixty", rays.alike(5, 6), 60);
        t.due("one of one and sixty", rays.alike(2, 7), 1);
        RayLayers turning = Check.of("layer 1500 thick 10;outside 1500;bottom open 1200;shot 0 down 1199;shot 0 down 1200;");
        t.due("one of one and two: v0 and v0^0", turning.alike(0, 1), 1);
        t.due("one of two and one: v0^0 and v0", turning.alike(1, 0), 1);
        rays.setLayer(1, 0, 1200);
        rays.turn(1, 1200);
        t.due("one of three: it is reflected", rays.alike(0, 1), 1);
        rays.turn(6, 1500);
        t.due("no legs", rays.alike(0, 6), 0);
        rays.turn(5, 1500);
        t.due("both without legs", rays.alike(5, 6), 0);
    }

    private void together() {
        RayLayers most = twenty("shot0up0;".repeat(20));
        twoShots(29, "together", shot -> most.together(19, shot), shot -> most.together(shot, 19), shot -> most.together(shot, shot));
        t.says(29, "Returns the first time at which both are in the same layer, asked for the ends of all their legs and for 0;");
        t.due("at 0", Check.of("layer 1000 thick 30;shot 0 down 0;shot 0 up 500;").together(0, 1), 0);
        int[][] due = {{29, 30, 29}, {30, 29, 29}, {30, 30, -1}, {30, 31, 30}, {31, 30, 30}};
        for (int[] thick : due) {
            RayLayers rays = Check.of("layer 1000 thick " + thick[0] + ";layer 1000 thick " + thick[1] + ";shot 0 down 0;shot 1 up 0;");
            t.due("layers of " + thick[0] + " and " + thick[1], rays.together(0, 1), thick[2]);
            t.due("the other way round", rays.together(1, 0), thick[2]);
        }
        RayLayers mirror = Check.of("layer 1000 thick 30;layer 1000 thick 30;bottom mirror 100;shot 0 down 0;shot 1 down 0;");
        t.due("at the end of both legs", mirror.together(0, 1), 30);
        mirror.setLayer(1, 1, 29);
        t.due("at the later end", mirror.together(0, 1), 30);
        mirror.setLayer(1, 1, 15);
        t.due("they change places at 30", mirror.together(0, 1), -1);
        mirror.setLayer(1, 1, 16);
        t.due("one leaves at 32", mirror.together(0, 1), 30);
        mirror.setLayer(1, 1, 14);
        t.due("one comes at 28", mirror.together(0, 1), 28);
        // Shot 0 stays in the first layer, a leg a time of 82; shot 1 goes down and up through nine layers of 266 a leg.
        RayLayers late = Check.of("layer1500thick2;" + "layer1400thick190;".repeat(9) + "bottom mirror 100;shot 0 down 1499;shot 1 down 0;");
        t.due("behind 58 legs of one and 18 of the other", late.together(0, 1), 18 * 266);
        t.due("these legs", late.legAt(0, 18 * 266) * 100 + late.legAt(1, 18 * 266), 5818);
        t.says(29, "NONE if there is none, or one of both has no legs.");
        int[][] outs = {{29, 30, -1}, {30, 30, -1}, {31, 30, 30}};
        for (int[] thick : outs) {
            RayLayers rays = Check.of("layer 1000 thick " + thick[0] + ";layer 1000 thick " + thick[1] + ";shot 0 up 0;shot 1 up 0;");
            t.due("one is out at " + thick[0] + ", the other comes at " + thick[1], rays.together(0, 1), thick[2]);
        }
        RayLayers without = Check.of("layer 1500 thick 30;shot 0 up 0;shot 0 up 1;shot 0 up 2;");
        without.turn(1, 1500);
        without.turn(2, 1501);
        t.due("the other has no legs", without.together(0, 1), -1);
        t.due("the first has no legs", without.together(1, 0), -1);
        t.due("both have no legs", without.together(1, 2), -1);
        RayLayers never = Check.of("layer 1500 thick 9;layer 1000 thick 9;layer 1500 thick 9;shot 0 down 1000;shot 2 down 1499;");
        t.due("sixty legs each, always apart", never.together(0, 1), -1);
        // Shot 1 is reflected at the bottom at 36, and comes into the upper layer at 72; shot 0 is on its first leg there.
        RayLayers behind = Check.of("layer 1500 thick 999;layer 4000 thick 9;bottom open 1000;shot 0 up 1499;shot 1 down 1499;");
        t.due("behind a first leg", behind.together(0, 1), 72);
    }

    private void legsIn() {
        t.says(30, LAYER, "Throws IndexOutOfBoundsException if there is no such layer");
        RayLayers most = Check.of("layer1500thick1;".repeat(10));
        t.range("one of ten", 0, 9, INDEX, most::legsIn);
        t.range("the only one", 0, 0, INDEX, new RayLayers()::legsIn);
        t.says(30, "Returns how many legs of all shots cross it.");
        t.due("no shots", most.legsIn(0), 0);
        RayLayers rays = Check.of("layer 1500 thick 10;layer 1000 thick 10;" + "shot 0 up 1499;".repeat(20));
        t.due("twenty times sixty", rays.legsIn(0), 1200);
        t.due("none", rays.legsIn(1), 0);
        rays.turn(19, 0);
        t.due("nineteen times sixty and one", rays.legsIn(0), 1141);
        rays.turn(18, 1500);
        t.due("one without legs", rays.legsIn(0), 1081);
    }

    /** Five layers, one of them of another index. */
    private static String oneOfFive(int layer, String index, String others) {
        return ("layer" + others + "thick1;").repeat(layer) + "layer" + index + "thick1;" + ("layer" + others + "thick1;").repeat(4 - layer);
    }

    private void busiest() {
        t.says(31, "Returns the layer that the most legs of all shots cross, the lowest one of several; NONE without legs.");
        t.due("no shots", new RayLayers().busiest(), -1);
        RayLayers rays = Check.of("layer 1500 thick 10;layer 1500 thick 10;layer 1500 thick 10;shot 2 down 0;");
        t.due("one leg in the last layer", rays.busiest(), 2);
        rays.shoot(2, false, 0);
        rays.shoot(2, true, 0);
        t.due("one leg, one and three", rays.busiest(), 2);
        rays.shoot(1, false, 0);
        rays.shoot(1, false, 0);
        t.due("three legs each: the lowest one", rays.busiest(), 0);
        rays.shoot(2, true, 0);
        t.due("one leg more", rays.busiest(), 2);
        for (int layer = 0; layer < 5; layer++) {
            t.due("layer " + layer + " of five, where a shot is trapped", Check.of(oneOfFive(layer, "2000", "1000")
                    + "shot 4 up 0;shot 0 down 0;shot " + layer + " down 1500;").busiest(), layer);
        }
        RayLayers none = Check.of("layer 1500 thick 10;shot 0 up 0;shot 0 down 0;");
        none.turn(0, 1500);
        t.due("one of two without legs", none.busiest(), 0);
        none.turn(1, 1500);
        t.due("two without legs", none.busiest(), -1);
    }

    private void meanIndex() {
        t.says(32, "Returns the mean index of the layers by thickness: the sum of index times thickness divided by that of thickness, both as doubles.");
        t.due("the least one", Check.of("layer 1000 thick 1;").meanIndex(), 1000.0);
        t.due("the greatest one", Check.of("layer4000thick999;".repeat(10)).meanIndex(), 4000.0);
        t.due("the thickest and the thinnest", Check.of("layer 4000 thick 999;layer 1000 thick 1;").meanIndex(), 3997.0);
        t.due("not whole", Check.of("layer 1000 thick 2;layer 1001 thick 1;").meanIndex(), 3001.0 / 3.0);
        t.due("not rounded down", Check.of("layer 1000 thick 1;layer 1001 thick 1;").meanIndex(), 1000.5);
        RayLayers less = Check.of("layer 1000 thick 1;layer 4000 thick 999;layer 3000 thick 500;");
        less.removeLayer(2);
        t.due("without the last layer", less.meanIndex(), 3997.0);
        less.removeLayer(1);
        t.due("without the last two", less.meanIndex(), 1000.0);
        t.due("what is around them does not count", Check.of("layer 1500 thick 7;outside 4000;bottom open 4000;").meanIndex(), 1500.0);
    }

    private void share() {
        t.says(33, SHOT, NO_SHOT);
        RayLayers most = twenty("shot0up0;".repeat(20));
        shotsOf("share", most::share, new RayLayers()::share);
        t.says(33, "Returns the power at its end as a float divided by 1000000.0f; 0.0f if it cannot begin.");
        t.due("all", most.share(0), 1.0f);
        RayLayers rays = Check.of("layer 1250 thick 800 loss 99;outside 1247;shot 0 up 1246;shot 0 up 0;");
        t.due("the least power", rays.share(0), 1 / 1000000.0f);
        t.due("another one", rays.share(1), 920800 / 1000000.0f);
        rays.setLayer(0, 1, 801);
        t.due("absorbed", rays.share(0), 0.0f);
        rays.turn(1, 1250);
        t.due("it cannot begin", rays.share(1), 0.0f);
        t.due("all but one", Check.of("layer 1000 thick 1 loss 1;shot 0 up 0;").share(0), 999999 / 1000000.0f);
    }

    private void endIf() {
        t.says(34, SHOT, LAYER, "Throws IndexOutOfBoundsException if there is no such shot or layer");
        RayLayers most = Check.of("layer1500thick1;".repeat(10) + "shot9up7;".repeat(20));
        shotsOf("endIf", shot -> most.endIf(shot, 0, 1000), shot -> new RayLayers().endIf(shot, 0, 1000));
        t.range("one of ten layers", 0, 9, INDEX, layer -> most.endIf(0, layer, 1000));
        RayLayers rays = Check.of("layer 1500 thick 10;shot 0 down 1200;");
        t.range("the only layer", 0, 0, INDEX, layer -> rays.endIf(0, layer, 1000));
        t.says(34, "index: 1000 to 4000", "Throws IllegalArgumentException if index is out of range");
        t.range("index", 1000, 4000, ARGUMENT, index -> rays.endIf(0, 0, index));
        t.says(34, "Returns the end that its path would have, if the layer had this index.");
        t.due("its slant is greater than the index", rays.endIf(0, 0, 1199), 4);
        t.due("its slant is the index", rays.endIf(0, 0, 1200), 4);
        t.due("its slant is less than the index", rays.endIf(0, 0, 1201), 3);
        t.due("the greatest index", rays.endIf(0, 0, 4000), 3);
        t.due("the index as it is", rays.endIf(0, 0, 1500), 3);
        rays.turn(0, 1500);
        t.due("it cannot begin, and could", rays.endIf(0, 0, 1501) * 10 + rays.path(0, 1), 34);
        t.due("it cannot begin, and could not", rays.endIf(0, 0, 1500), 4);
        RayLayers two = Check.of("layer 1500 thick 10;layer 1100 thick 10;bottom open 4000;shot 0 down 1200;");
        t.due("the other layer lets it pass", two.endIf(0, 1, 1201), 1);
        t.due("the other layer does not", two.endIf(0, 1, 1200), 3);
        two.removeLayer(0);
        two.addLayer(1, 1000, 1, 0);
        two.removeLayer(0);
        t.due("a path that cannot begin", two.endIf(0, 0, 1200) * 10 + two.endIf(0, 0, 1201), 41);
        t.due("the layer keeps its index", two.layer(0, 0), 1000);
        RayLayers gone = Check.of("layer 1500 thick 10;layer 1500 thick 10;shot 1 up 0;");
        gone.removeLayer(1);
        t.due("its layer does not exist", gone.endIf(0, 0, 4000), 4);
    }

    private void bestWithout() {
        t.says(35, SHOT, NO_SHOT);
        RayLayers most = Check.of("layer1500thick1;".repeat(10) + "shot9up7;".repeat(20));
        shotsOf("bestWithout", most::bestWithout, new RayLayers()::bestWithout);
        t.says(35, "Returns the layer without which its power at its end would be greatest (the shot's own layer by its number), the lowest one of several; "
                + "NONE with one layer alone.");
        t.due("one layer alone", Check.of("layer 1500 thick 1;shot 0 up 0;").bestWithout(0), -1);
        t.due("ten alike: the lowest one", Check.of("layer1500thick1;".repeat(10) + "shot 0 down 0;").bestWithout(0), 0);
        t.due("two alike: the lowest one", Check.of("layer 1500 thick 1;layer 1500 thick 1;shot 0 up 0;").bestWithout(0), 0);
        RayLayers losses = Check.of("layer 1000 thick 100 loss 1;layer 1000 thick 100 loss 1;layer 1000 thick 100 loss 1;shot 0 down 0;shot 2 down 0;");
        t.due("three losses alike", losses.bestWithout(0), 0);
        losses.setLayer(2, 1, 101);
        t.due("a greater loss by 1", losses.bestWithout(0), 2);
        losses.setLayer(1, 1, 101);
        t.due("two greater ones: the lowest one", losses.bestWithout(0), 1);
        // Without any layer there is no layer 2, and shot 1 could not begin: power 0 each.
        t.due("power 0 without each of them", losses.bestWithout(1), 0);
        // Without layer 1 the shot would begin in what is layer 2 now.
        RayLayers own = Check.of("layer 1000 thick 100 loss 1;layer 1000 thick 100 loss 9;layer 1000 thick 100;shot 1 up 0;");
        t.due("its own layer by its number", own.bestWithout(0), 1);
        own.swapLayers(1, 2);
        // Without layer 0 it goes up through losses 9 and 0; without 1 through 9 and 1; without 2 through 0 and 1.
        t.due("without the one below it", own.bestWithout(0), 2);
        t.due("the last of ten", Check.of("layer1500thick1;".repeat(9) + "layer1500thick1loss1;shot 0 down 0;").bestWithout(0), 9);
        for (int layer = 0; layer < 5; layer++) {
            RayLayers rays = Check.of(oneOfFive(layer, "1500", "1500") + "shot 0 down 0;");
            rays.setLayer(layer, 2, 1);
            t.due("layer " + layer + " of five", rays.bestWithout(0), layer);
        }
        RayLayers slant = Check.of("layer 1500 thick 1;layer 1200 thick 1;shot 0 down 1200;");
        // Without layer 0 its slant is not less than the index: power 0; without layer 1 it is trapped with all its power.
        t.due("a slant that is the index", slant.bestWithout(0), 1);
        slant.setLayer(1, 0, 1201);
        t.due("a slant that is less than the index", slant.bestWithout(0), 0);
    }
}
