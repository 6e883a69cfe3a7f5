import java.math.BigInteger;
import java.util.ArrayDeque;
import java.util.ArrayList;
import java.util.Deque;
import java.util.List;
import java.util.NoSuchElementException;
import java.util.regex.Matcher;
import java.util.regex.Pattern;

/** The document once more, as slow and literal as can be: RandomRunsTest compares the program with it. */
final class Model {
    static final int NONE = -1;

    static final class Leg {
        int layer;
        boolean down;
        long shift;
        long length;
        long time;
        long power;
        int event;
        long endTime;
    }

    static final class Trace {
        final List<Leg> legs = new ArrayList<>();
        int end;
        long power;
        int reflections;
        int mirrorings;
        int crossings;

        long sum(int what) {
            long sum = 0;
            for (Leg leg : legs) {
                sum += what == 2 ? leg.shift : what == 3 ? leg.length : leg.time;
            }
            return sum;
        }
    }

    static final class Stack implements Cloneable {
        List<int[]> layers = new ArrayList<>();
        List<int[]> shots = new ArrayList<>();
        int outside = 1000;
        boolean mirror = false;
        int bottom = 1000;

        Stack copy() {
            Stack copy = new Stack();
            for (int[] layer : layers) {
                copy.layers.add(layer.clone());
            }
            for (int[] shot : shots) {
                copy.shots.add(shot.clone());
            }
            copy.outside = outside;
            copy.mirror = mirror;
            copy.bottom = bottom;
            return copy;
        }

        Trace trace(int layer, boolean down, int slant) {
            Trace trace = new Trace();
            if (layer >= layers.size() || slant >= layers.get(layer)[0]) {
                trace.end = 4;
                return trace;
            }
            trace.power = 1000000;
            long clock = 0;
            while (true) {
                Leg leg = new Leg();
                trace.legs.add(leg);
                long n = layers.get(layer)[0];
                long d = layers.get(layer)[1];
                long c = BigInteger.valueOf(n * n - (long) slant * slant).sqrt().longValueExact();
                leg.layer = layer;
                leg.down = down;
                leg.shift = d * slant / c;
                leg.length = d * n / c;
                leg.time = leg.length * n / 1000;
                clock += leg.time;
                leg.endTime = clock;
                trace.power = Math.max(0, trace.power - trace.power * layers.get(layer)[2] * leg.length / 1000000);
                leg.power = trace.power;
                if (trace.power == 0) {
                    leg.event = 5;
                    trace.end = 2;
                    return trace;
                }
                boolean last = trace.legs.size() == 60;
                boolean atTop = !down && layer == 0;
                boolean atBottom = down && layer == layers.size() - 1;
                if (atBottom && mirror) {
                    if (last) {
                        leg.event = 6;
                        trace.end = 3;
                        return trace;
                    }
                    trace.mirrorings++;
                    trace.power = trace.power * bottom / 100;
                    if (trace.power == 0) {
                        leg.event = 5;
                        trace.end = 2;
                        return trace;
                    }
                    leg.event = 2;
                    down = false;
                    continue;
                }
                long beyond = atTop ? outside : atBottom ? bottom : layers.get(down ? layer + 1 : layer - 1)[0];
                if (beyond > slant && (atTop || atBottom)) {
                    leg.event = atTop ? 3 : 4;
                    trace.end = atTop ? 0 : 1;
                    return trace;
                }
                if (last) {
                    leg.event = 6;
                    trace.end = 3;
                    return trace;
                }
                if (beyond > slant) {
                    trace.power -= trace.power * ((n - beyond) * (n - beyond)) / ((n + beyond) * (n + beyond));
                    trace.crossings++;
                    layer += down ? 1 : -1;
                    leg.event = 0;
                } else {
                    trace.reflections++;
                    down = !down;
                    leg.event = 1;
                }
            }
        }

        Trace traceShot(int shot) {
            int[] told = shots.get(shot);
            return trace(told[0], told[1] == 1, told[2]);
        }
    }

    private Stack now = new Stack();
    private final Deque<Stack> past = new ArrayDeque<>();
    private final Stack[] kept = new Stack[2];
    private final StringBuilder in = new StringBuilder();
    private String out = "";
    private int code = 0;
    private int position = NONE;

    Model() {
        now.layers.add(new int[] {1500, 10, 0});
    }

    private void needIndex(boolean good) {
        if (!good) {
            throw new IndexOutOfBoundsException();
        }
    }

    private void need(boolean good) {
        if (!good) {
            throw new IllegalArgumentException();
        }
    }

    private void needState(boolean good) {
        if (!good) {
            throw new IllegalStateException();
        }
    }

    private void needLayer(int layer) {
        needIndex(layer >= 0 && layer < now.layers.size());
    }

    private void needShot(int shot) {
        needIndex(shot >= 0 && shot < now.shots.size());
    }

    private void needIn(int value, int least, int most) {
        need(value >= least && value <= most);
    }

    private void save() {
        past.addLast(now.copy());
        if (past.size() > 6) {
            past.removeFirst();
        }
    }

    public int append(int a, int b, int c, int d, int e) {
        needState(in.length() + 20 <= 400);
        for (int word : new int[] {a, b, c, d, e}) {
            for (int i = 0; i < 4; i++) {
                in.append((char) (word >>> 24 - 8 * i & 255));
            }
        }
        return in.length();
    }

    public void truncate(int length) {
        needIn(length, 0, in.length());
        in.setLength(length);
    }

    /** The error that a text has. */
    private static final class Fault extends Exception {
        private static final long serialVersionUID = 1;
        final int code;

        Fault(int code) {
            this.code = code;
        }
    }

    private List<String> tokens;
    private List<Integer> starts;
    private int taken;

    private String token() {
        return taken < tokens.size() ? tokens.get(taken) : "";
    }

    private void expect(String word) throws Fault {
        if (!token().equals(word)) {
            throw new Fault(1);
        }
        taken++;
    }

    private int number(int least, int most) throws Fault {
        if (!token().matches("[0-9]+")) {
            throw new Fault(1);
        }
        BigInteger value = new BigInteger(token());
        if (value.compareTo(BigInteger.valueOf(least)) < 0 || value.compareTo(BigInteger.valueOf(most)) > 0) {
            throw new Fault(2);
        }
        taken++;
        return value.intValueExact();
    }

    private Stack statements() throws Fault {
        Stack stack = new Stack();
        boolean outside = false;
        boolean bottom = false;
        while (taken < tokens.size() || stack.layers.isEmpty()) {
            String word = token();
            if (!word.matches("layer|outside|bottom|shot") || stack.layers.isEmpty() && !word.equals("layer")) {
                throw new Fault(1);
            }
            if (word.equals("outside") && outside || word.equals("bottom") && bottom) {
                throw new Fault(3);
            }
            if (word.equals("layer") && stack.layers.size() == 10 || word.equals("shot") && stack.shots.size() == 20) {
                throw new Fault(6);
            }
            taken++;
            if (word.equals("layer")) {
                int[] layer = {number(1000, 4000), 0, 0};
                expect("thick");
                layer[1] = number(1, 999);
                if (token().equals("loss")) {
                    taken++;
                    layer[2] = number(0, 99);
                }
                stack.layers.add(layer);
            } else if (word.equals("outside")) {
                outside = true;
                stack.outside = number(1000, 4000);
            } else if (word.equals("bottom")) {
                bottom = true;
                stack.mirror = token().equals("mirror");
                if (!stack.mirror && !token().equals("open")) {
                    throw new Fault(1);
                }
                taken++;
                stack.bottom = stack.mirror ? number(0, 100) : number(1000, 4000);
            } else {
                int layer = number(0, 9);
                if (layer >= stack.layers.size()) {
                    taken--;
                    throw new Fault(4);
                }
                boolean down = token().equals("down");
                if (!down && !token().equals("up")) {
                    throw new Fault(1);
                }
                taken++;
                int slant = number(0, 3999);
                if (slant >= stack.layers.get(layer)[0]) {
                    taken--;
                    throw new Fault(5);
                }
                stack.shots.add(new int[] {layer, down ? 1 : 0, slant});
            }
            expect(";");
        }
        return stack;
    }

    public int load() {
        tokens = new ArrayList<>();
        starts = new ArrayList<>();
        taken = 0;
        Matcher matcher = Pattern.compile("[a-z]+|[0-9]+|[^ \n]", Pattern.DOTALL).matcher(in);
        while (matcher.find()) {
            tokens.add(matcher.group());
            starts.add(matcher.start());
        }
        int length = in.length();
        in.setLength(0);
        try {
            Stack loaded = statements();
            save();
            now = loaded;
            code = 0;
            position = NONE;
            return now.layers.size();
        } catch (Fault fault) {
            code = fault.code;
            position = taken < starts.size() ? starts.get(taken) : length;
            return -4;
        }
    }

    public int errorCode() {
        return code;
    }

    public int errorPosition() {
        return position;
    }

    private int depth(int layer) {
        int depth = 0;
        for (int above = 0; above < layer; above++) {
            depth += now.layers.get(above)[1];
        }
        return depth;
    }

    public int property(int what) {
        needIn(what, 0, 5);
        int[] all = {now.layers.size(), now.outside, now.mirror ? 1 : 0, now.bottom, now.shots.size(), depth(now.layers.size())};
        return all[what];
    }

    public int layer(int layer, int what) {
        needLayer(layer);
        needIn(what, 0, 3);
        return what == 3 ? depth(layer) : now.layers.get(layer)[what];
    }

    public int shot(int shot, int what) {
        needShot(shot);
        needIn(what, 0, 2);
        return now.shots.get(shot)[what];
    }

    public int path(int shot, int what) {
        needShot(shot);
        needIn(what, 0, 9);
        Trace trace = now.traceShot(shot);
        int deepest = NONE;
        for (Leg leg : trace.legs) {
            deepest = Math.max(deepest, leg.layer);
        }
        long[] all = {trace.legs.size(), trace.end, trace.sum(2), trace.sum(3), trace.sum(4), trace.power,
                trace.reflections, trace.mirrorings, trace.crossings, deepest};
        return Math.toIntExact(all[what]);
    }

    public int leg(int shot, int leg, int what) {
        needShot(shot);
        Trace trace = now.traceShot(shot);
        needIndex(leg >= 0 && leg < trace.legs.size());
        needIn(what, 0, 6);
        Leg told = trace.legs.get(leg);
        long[] all = {told.layer, told.down ? 1 : 0, told.shift, told.length, told.time, told.power, told.event};
        return Math.toIntExact(all[what]);
    }

    private static int legAt(Trace trace, int time) {
        for (int leg = 0; leg < trace.legs.size(); leg++) {
            if (trace.legs.get(leg).endTime > time) {
                return leg;
            }
        }
        return NONE;
    }

    public int legAt(int shot, int time) {
        needShot(shot);
        need(time >= 0);
        return legAt(now.traceShot(shot), time);
    }

    public int shiftAt(int shot, int time) {
        needShot(shot);
        need(time >= 0);
        Trace trace = now.traceShot(shot);
        int at = legAt(trace, time);
        if (at == NONE) {
            return Math.toIntExact(trace.sum(2));
        }
        long shift = 0;
        for (int leg = 0; leg < at; leg++) {
            shift += trace.legs.get(leg).shift;
        }
        Leg leg = trace.legs.get(at);
        return Math.toIntExact(shift + leg.shift * (time - leg.endTime + leg.time) / leg.time);
    }

    public int depthAt(int shot, int time) {
        needShot(shot);
        need(time >= 0);
        Trace trace = now.traceShot(shot);
        int at = legAt(trace, time);
        if (at == NONE) {
            return NONE;
        }
        Leg leg = trace.legs.get(at);
        long part = now.layers.get(leg.layer)[1] * (time - leg.endTime + leg.time) / leg.time;
        return Math.toIntExact(leg.down ? depth(leg.layer) + part : depth(leg.layer + 1) - part);
    }

    public int critical(int layer, boolean down) {
        needLayer(layer);
        for (int slant = 0; slant < now.layers.get(layer)[0]; slant++) {
            boolean atEdge = down ? layer == now.layers.size() - 1 : layer == 0;
            if (atEdge && down && now.mirror) {
                return NONE;
            }
            int beyond = atEdge ? down ? now.bottom : now.outside : now.layers.get(down ? layer + 1 : layer - 1)[0];
            if (beyond <= slant) {
                return slant;
            }
        }
        return NONE;
    }

    public int endOf(int layer, boolean down, int slant) {
        needLayer(layer);
        needIn(slant, 0, 3999);
        return now.trace(layer, down, slant).end;
    }

    public int shiftOf(int layer, boolean down, int slant) {
        needLayer(layer);
        needIn(slant, 0, 3999);
        Trace trace = now.trace(layer, down, slant);
        return trace.end == 4 ? NONE : Math.toIntExact(trace.sum(2));
    }

    private int slantsWith(int layer, boolean down, int end) {
        int found = 0;
        for (int slant = 0; slant < 4000; slant++) {
            found += now.trace(layer, down, slant).end == end ? 1 : 0;
        }
        return found;
    }

    public int slants(int layer, boolean down, int end) {
        needLayer(layer);
        needIn(end, 0, 3);
        return slantsWith(layer, down, end);
    }

    public int leastSlant(int layer, boolean down, int end) {
        needLayer(layer);
        needIn(end, 0, 3);
        for (int slant = 0; slant < 4000; slant++) {
            if (now.trace(layer, down, slant).end == end) {
                return slant;
            }
        }
        return NONE;
    }

    public int slantFor(int layer, boolean down, int shift) {
        needLayer(layer);
        need(shift >= 0);
        int best = NONE;
        long nearest = Long.MAX_VALUE;
        for (int slant = 0; slant < 4000; slant++) {
            Trace trace = now.trace(layer, down, slant);
            if (trace.end == 0 && Math.abs(trace.sum(2) - shift) < nearest) {
                nearest = Math.abs(trace.sum(2) - shift);
                best = slant;
            }
        }
        return best;
    }

    /** The slant of this end with the greatest (by sign 1) or least (by sign -1) number of a path. */
    private int[] best(int layer, boolean down, int end, int what, int sign) {
        needLayer(layer);
        needIn(end, 0, 3);
        int best = NONE;
        long bestValue = NONE;
        for (int slant = 0; slant < 4000; slant++) {
            Trace trace = now.trace(layer, down, slant);
            long value = what == 5 ? trace.power : trace.sum(what);
            if (trace.end == end && (best == NONE || value * sign > bestValue * sign)) {
                best = slant;
                bestValue = value;
            }
        }
        return new int[] {best, Math.toIntExact(bestValue)};
    }

    public int fastest(int layer, boolean down, int end) {
        return best(layer, down, end, 4, -1)[0];
    }

    public int brightest(int layer, boolean down, int end) {
        return best(layer, down, end, 5, 1)[0];
    }

    public int farthest(int layer, boolean down, int end) {
        return best(layer, down, end, 2, 1)[1];
    }

    public int guide() {
        int best = NONE;
        int most = 0;
        for (int layer = 0; layer < now.layers.size(); layer++) {
            int trapped = slantsWith(layer, true, 3);
            if (trapped > most) {
                most = trapped;
                best = layer;
            }
        }
        return best;
    }

    public int count(int end) {
        needIn(end, 0, 4);
        int found = 0;
        for (int shot = 0; shot < now.shots.size(); shot++) {
            found += now.traceShot(shot).end == end ? 1 : 0;
        }
        return found;
    }

    public int first() {
        int best = NONE;
        for (int shot = 0; shot < now.shots.size(); shot++) {
            Trace trace = now.traceShot(shot);
            if (trace.end < 2 && (best == NONE || trace.sum(4) < now.traceShot(best).sum(4))) {
                best = shot;
            }
        }
        return best;
    }

    public int strongest() {
        int best = NONE;
        for (int shot = 0; shot < now.shots.size(); shot++) {
            Trace trace = now.traceShot(shot);
            if (trace.end < 2 && (best == NONE || trace.power > now.traceShot(best).power)) {
                best = shot;
            }
        }
        return best;
    }

    public int alike(int shot, int other) {
        needShot(shot);
        needShot(other);
        need(shot != other);
        List<Leg> own = now.traceShot(shot).legs;
        List<Leg> others = now.traceShot(other).legs;
        for (int leg = 0;; leg++) {
            if (leg == own.size() || leg == others.size() || own.get(leg).layer != others.get(leg).layer
                    || own.get(leg).down != others.get(leg).down) {
                return leg;
            }
        }
    }

    public int together(int shot, int other) {
        needShot(shot);
        needShot(other);
        need(shot != other);
        Trace own = now.traceShot(shot);
        Trace others = now.traceShot(other);
        java.util.TreeSet<Integer> asked = new java.util.TreeSet<>();
        asked.add(0);
        own.legs.forEach(leg -> asked.add((int) leg.endTime));
        others.legs.forEach(leg -> asked.add((int) leg.endTime));
        for (int time : asked) {
            int at = legAt(own, time);
            int otherAt = legAt(others, time);
            if (at != NONE && otherAt != NONE && own.legs.get(at).layer == others.legs.get(otherAt).layer) {
                return time;
            }
        }
        return NONE;
    }

    private int legsAcross(int layer) {
        int found = 0;
        for (int shot = 0; shot < now.shots.size(); shot++) {
            for (Leg leg : now.traceShot(shot).legs) {
                found += leg.layer == layer ? 1 : 0;
            }
        }
        return found;
    }

    public int legsIn(int layer) {
        needLayer(layer);
        return legsAcross(layer);
    }

    public int busiest() {
        int best = NONE;
        for (int layer = 0; layer < now.layers.size(); layer++) {
            if (legsAcross(layer) > (best == NONE ? 0 : legsAcross(best))) {
                best = layer;
            }
        }
        return best;
    }

    public double meanIndex() {
        double sum = 0;
        double thickness = 0;
        for (int[] layer : now.layers) {
            sum += layer[0] * layer[1];
            thickness += layer[1];
        }
        return sum / thickness;
    }

    public float share(int shot) {
        needShot(shot);
        return now.traceShot(shot).power / 1000000.0f;
    }

    public int endIf(int shot, int layer, int index) {
        needShot(shot);
        needLayer(layer);
        needIn(index, 1000, 4000);
        Stack changed = now.copy();
        changed.layers.get(layer)[0] = index;
        return changed.traceShot(shot).end;
    }

    public int bestWithout(int shot) {
        needShot(shot);
        int best = NONE;
        long most = -1;
        for (int layer = 0; layer < now.layers.size() && now.layers.size() > 1; layer++) {
            Stack changed = now.copy();
            changed.layers.remove(layer);
            long power = changed.traceShot(shot).power;
            if (power > most) {
                most = power;
                best = layer;
            }
        }
        return best;
    }

    public int addLayer(int at, int index, int thickness, int loss) {
        needIndex(at >= 0 && at <= now.layers.size());
        needIn(index, 1000, 4000);
        needIn(thickness, 1, 999);
        needIn(loss, 0, 99);
        needState(now.layers.size() < 10);
        save();
        now.layers.add(at, new int[] {index, thickness, loss});
        return now.layers.size();
    }

    public int removeLayer(int layer) {
        needLayer(layer);
        needState(now.layers.size() > 1);
        save();
        now.layers.remove(layer);
        return now.layers.size();
    }

    public int setLayer(int layer, int what, int value) {
        needLayer(layer);
        needIn(what, 0, 2);
        needIn(value, what == 0 ? 1000 : what == 1 ? 1 : 0, what == 0 ? 4000 : what == 1 ? 999 : 99);
        save();
        int before = now.layers.get(layer)[what];
        now.layers.get(layer)[what] = value;
        return before;
    }

    public int swapLayers(int layer, int other) {
        needLayer(layer);
        needLayer(other);
        need(layer != other);
        save();
        List<Integer> ends = new ArrayList<>();
        for (int shot = 0; shot < now.shots.size(); shot++) {
            ends.add(now.traceShot(shot).end);
        }
        java.util.Collections.swap(now.layers, layer, other);
        int changed = 0;
        for (int shot = 0; shot < now.shots.size(); shot++) {
            changed += now.traceShot(shot).end == ends.get(shot) ? 0 : 1;
        }
        return changed;
    }

    public int setOutside(int index) {
        needIn(index, 1000, 4000);
        save();
        int before = now.outside;
        now.outside = index;
        return before;
    }

    public int setOpen(int index) {
        needIn(index, 1000, 4000);
        save();
        int before = now.mirror ? 5000 : now.bottom;
        now.mirror = false;
        now.bottom = index;
        return before;
    }

    public int setMirror(int percents) {
        needIn(percents, 0, 100);
        save();
        int before = now.mirror ? now.bottom : NONE;
        now.mirror = true;
        now.bottom = percents;
        return before;
    }

    public int shoot(int layer, boolean down, int slant) {
        needLayer(layer);
        needIn(slant, 0, 3999);
        need(slant < now.layers.get(layer)[0]);
        needState(now.shots.size() < 20);
        save();
        now.shots.add(new int[] {layer, down ? 1 : 0, slant});
        return now.shots.size() - 1;
    }

    public int turn(int shot, int slant) {
        needShot(shot);
        needIn(slant, 0, 3999);
        save();
        now.shots.get(shot)[2] = slant;
        return now.traceShot(shot).end;
    }

    public int dropShot(int shot) {
        needShot(shot);
        save();
        now.shots.remove(shot);
        return now.shots.size();
    }

    public int keep(int slot) {
        needIndex(slot == 0 || slot == 1);
        kept[slot] = now.copy();
        return now.shots.size();
    }

    public int restore(int slot) {
        needIndex(slot == 0 || slot == 1);
        needState(kept[slot] != null);
        save();
        now = kept[slot].copy();
        return now.shots.size();
    }

    public int undo() {
        needState(!past.isEmpty());
        now = past.removeLast();
        return past.size();
    }

    public int undoCount() {
        return past.size();
    }

    public int writeLayers() {
        List<String> written = new ArrayList<>();
        for (int[] layer : now.layers) {
            written.add(layer[0] + "x" + layer[1]);
        }
        out = String.join("/", written) + (now.mirror ? "#" : "|") + now.bottom;
        return out.length();
    }

    public int writePath(int shot) {
        needShot(shot);
        Trace trace = now.traceShot(shot);
        StringBuilder written = new StringBuilder();
        for (Leg leg : trace.legs) {
            written.append(leg.down ? 'v' : '^').append(leg.layer);
        }
        out = written.append("tbarn".charAt(trace.end)).toString();
        return out.length();
    }

    public int outputByte(int index) {
        if (index < 0 || index >= out.length()) {
            throw new NoSuchElementException();
        }
        return out.charAt(index);
    }
}
