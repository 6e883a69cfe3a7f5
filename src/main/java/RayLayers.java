import java.util.Arrays;
import java.util.NoSuchElementException;

/** Rays through plane layers. ../shared/DOC.md says, promise by promise, what each call answers. */
public final class RayLayers {
    public static final int NONE = -1;
    public static final int PARSE_ERROR = -4;
    public static final int TOP = 0, BOTTOM = 1, ABSORBED = 2, TRAPPED = 3, NO_BEGIN = 4;

    private static final int MOST_LAYERS = 10;
    private static final int MOST_SHOTS = 20;
    private static final int MOST_LEGS = 60;
    private static final int MOST_UNDOS = 6;
    private static final int SLOTS = 2;
    private static final int MOST_BYTES = 400;
    private static final int APPENDED_BYTES = 20;

    private static final int LEAST_INDEX = 1000, MOST_INDEX = 4000, USUAL_INDEX = 1000;
    private static final int LEAST_THICKNESS = 1, MOST_THICKNESS = 999;
    private static final int MOST_LOSS = 99;
    private static final int MOST_PERCENTS = 100;
    private static final int MOST_SLANT = 3999;
    private static final int FULL_POWER = 1000000;
    private static final int WAS_MIRROR = 5000;

    // The columns of a table row, in the order of the parameter what of layer() and of shot().
    private static final int COLUMNS = 3;
    private static final int INDEX = 0, THICKNESS = 1, LOSS = 2;
    private static final int SHOT_LAYER = 0, SHOT_DOWN = 1, SHOT_SLANT = 2;

    // The numbers of a leg, in the order of the parameter what of leg().
    private static final int LEG_NUMBERS = 7;
    private static final int LEG_LAYER = 0, LEG_DOWN = 1, LEG_SHIFT = 2, LEG_LENGTH = 3, LEG_TIME = 4;
    private static final int LEG_POWER = 5, LEG_EVENT = 6;

    // What happens behind a leg.
    private static final int PASSES = 0, TOTAL_REFLECTION = 1, MIRRORING = 2;
    private static final int OUT_AT_TOP = 3, OUT_AT_BOTTOM = 4, IS_ABSORBED = 5, IS_TRAPPED = 6;

    // What the best slant is asked for.
    private static final int FOR_LEAST_TIME = 0, FOR_MOST_POWER = 1, FOR_MOST_SHIFT = 2;

    private static final String END_LETTERS = "tbarn";

    private final Bytes input = new Bytes();
    private final Bytes output = new Bytes();
    private final Scene scene = new Scene();
    private final Scene trial = new Scene();
    private final History history = new History();
    private final Scene[] slots = new Scene[SLOTS];
    private final Ray ray = new Ray(scene);
    private final Path ownPath = new Path(scene);
    private final Path otherPath = new Path(scene);
    private final Survey survey = new Survey(scene);
    private final Parser parser = new Parser(input, trial);

    public RayLayers() {
        scene.layers.insert(0, 1500, 10, 0);
    }

    public int append(int a, int b, int c, int d, int e) throws IllegalStateException {
        if (input.length + APPENDED_BYTES > MOST_BYTES) {
            throw new IllegalStateException("the input buffer is full");
        }
        input.addFour(a);
        input.addFour(b);
        input.addFour(c);
        input.addFour(d);
        input.addFour(e);
        return input.length;
    }

    public void truncate(int length) throws IllegalArgumentException {
        checkRange(length, 0, input.length);
        input.length = length;
    }

    public int load() {
        boolean parsed = parser.parse();
        input.length = 0;
        if (!parsed) {
            return PARSE_ERROR;
        }
        history.remember(scene);
        scene.become(trial);
        return scene.layers.rows;
    }

    public int errorCode() {
        return parser.errorCode;
    }

    public int errorPosition() {
        return parser.errorStart;
    }

    public int property(int what) throws IllegalArgumentException {
        switch (what) {
            case 0:
                return scene.layers.rows;
            case 1:
                return scene.outside;
            case 2:
                return scene.mirror ? 1 : 0;
            case 3:
                return scene.bottom;
            case 4:
                return scene.shots.rows;
            case 5:
                return scene.depthOf(scene.layers.rows);
            default:
                throw new IllegalArgumentException("no such property");
        }
    }

    public int layer(int layer, int what) throws IndexOutOfBoundsException, IllegalArgumentException {
        checkLayer(layer);
        checkRange(what, 0, COLUMNS);
        return what == COLUMNS ? scene.depthOf(layer) : scene.layers.get(layer, what);
    }

    public int shot(int shot, int what) throws IndexOutOfBoundsException, IllegalArgumentException {
        checkShot(shot);
        checkRange(what, 0, COLUMNS - 1);
        return scene.shots.get(shot, what);
    }

    public int path(int shot, int what) throws IndexOutOfBoundsException, IllegalArgumentException {
        checkShot(shot);
        Ray run = runOf(scene, shot);
        switch (what) {
            case 0:
                return run.legs;
            case 1:
                return run.end;
            case 2:
                return run.shifts;
            case 3:
                return run.lengths;
            case 4:
                return run.times;
            case 5:
                return run.power;
            case 6:
                return run.totalReflections;
            case 7:
                return run.mirrorings;
            case 8:
                return run.crossings;
            case 9:
                return run.deepest;
            default:
                throw new IllegalArgumentException("no such number of a path");
        }
    }

    public int leg(int shot, int leg, int what) throws IndexOutOfBoundsException, IllegalArgumentException {
        checkShot(shot);
        Path path = pathOf(ownPath, shot);
        if (leg < 0 || leg >= path.legs) {
            throw new IndexOutOfBoundsException("no such leg");
        }
        checkRange(what, 0, LEG_NUMBERS - 1);
        return path.get(leg, what);
    }

    public int legAt(int shot, int time) throws IndexOutOfBoundsException, IllegalArgumentException {
        checkShotAndTime(shot, time);
        Path path = pathOf(ownPath, shot);
        int leg = path.legDuring(time);
        return leg < path.legs ? leg : NONE;
    }

    public int shiftAt(int shot, int time) throws IndexOutOfBoundsException, IllegalArgumentException {
        checkShotAndTime(shot, time);
        Path path = pathOf(ownPath, shot);
        int leg = path.legDuring(time);
        return path.sumAhead(leg, LEG_SHIFT) + path.partOfLeg(leg, time, path.get(leg, LEG_SHIFT));
    }

    public int depthAt(int shot, int time) throws IndexOutOfBoundsException, IllegalArgumentException {
        checkShotAndTime(shot, time);
        Path path = pathOf(ownPath, shot);
        int leg = path.legDuring(time);
        if (leg >= path.legs) {
            return NONE;
        }
        int layer = path.get(leg, LEG_LAYER);
        int depth = path.partOfLeg(leg, time, scene.layers.get(layer, THICKNESS));
        return path.get(leg, LEG_DOWN) == 1 ? scene.depthOf(layer) + depth : scene.depthOf(layer + 1) - depth;
    }

    public int critical(int layer, boolean down) throws IndexOutOfBoundsException {
        checkLayer(layer);
        int behind = down ? layer + 1 : layer - 1;
        if (scene.isMirrorAt(behind)) {
            return NONE;
        }
        int index = scene.indexAt(behind);
        return index < scene.indexAt(layer) ? index : NONE;
    }

    public int endOf(int layer, boolean down, int slant) throws IndexOutOfBoundsException, IllegalArgumentException {
        checkLayer(layer);
        checkRange(slant, 0, MOST_SLANT);
        ray.enter(scene);
        ray.run(layer, down, slant);
        return ray.end;
    }

    public int shiftOf(int layer, boolean down, int slant) throws IndexOutOfBoundsException, IllegalArgumentException {
        checkLayer(layer);
        checkRange(slant, 0, MOST_SLANT);
        ray.enter(scene);
        ray.run(layer, down, slant);
        return ray.end == NO_BEGIN ? NONE : ray.shifts;
    }

    public int slants(int layer, boolean down, int end) throws IndexOutOfBoundsException, IllegalArgumentException {
        checkLayerAndEnd(layer, end);
        return survey.countSlants(layer, down, end);
    }

    public int leastSlant(int layer, boolean down, int end) throws IndexOutOfBoundsException, IllegalArgumentException {
        checkLayerAndEnd(layer, end);
        return survey.lowestSlant(layer, down, end);
    }

    public int slantFor(int layer, boolean down, int shift) throws IndexOutOfBoundsException, IllegalArgumentException {
        checkLayer(layer);
        checkNotNegative(shift);
        return survey.nearestSlant(layer, down, shift);
    }

    public int fastest(int layer, boolean down, int end) throws IndexOutOfBoundsException, IllegalArgumentException {
        checkLayerAndEnd(layer, end);
        survey.findBest(layer, down, end, FOR_LEAST_TIME);
        return survey.best;
    }

    public int brightest(int layer, boolean down, int end) throws IndexOutOfBoundsException, IllegalArgumentException {
        checkLayerAndEnd(layer, end);
        survey.findBest(layer, down, end, FOR_MOST_POWER);
        return survey.best;
    }

    public int farthest(int layer, boolean down, int end) throws IndexOutOfBoundsException, IllegalArgumentException {
        checkLayerAndEnd(layer, end);
        survey.findBest(layer, down, end, FOR_MOST_SHIFT);
        return survey.best == NONE ? NONE : (int) survey.bestScore;
    }

    public int guide() {
        int best = NONE;
        int most = 0;
        for (int layer = 0; layer < scene.layers.rows; layer++) {
            int trapped = survey.countSlants(layer, true, TRAPPED);
            if (trapped > most) {
                best = layer;
                most = trapped;
            }
        }
        return best;
    }

    public int count(int end) throws IllegalArgumentException {
        checkRange(end, TOP, NO_BEGIN);
        int found = 0;
        for (int shot = 0; shot < scene.shots.rows; shot++) {
            if (runOf(scene, shot).end == end) {
                found++;
            }
        }
        return found;
    }

    public int first() {
        int best = NONE;
        int least = 0;
        for (int shot = 0; shot < scene.shots.rows; shot++) {
            Ray run = runOf(scene, shot);
            if (run.isOut() && (best == NONE || run.times < least)) {
                best = shot;
                least = run.times;
            }
        }
        return best;
    }

    public int strongest() {
        int best = NONE;
        int most = 0;
        for (int shot = 0; shot < scene.shots.rows; shot++) {
            Ray run = runOf(scene, shot);
            if (run.isOut() && (best == NONE || run.power > most)) {
                best = shot;
                most = run.power;
            }
        }
        return best;
    }

    public int alike(int shot, int other) throws IndexOutOfBoundsException, IllegalArgumentException {
        checkTwoShots(shot, other);
        return pathOf(ownPath, shot).legsAlike(pathOf(otherPath, other));
    }

    public int together(int shot, int other) throws IndexOutOfBoundsException, IllegalArgumentException {
        checkTwoShots(shot, other);
        return pathOf(ownPath, shot).meetingTime(pathOf(otherPath, other));
    }

    public int legsIn(int layer) throws IndexOutOfBoundsException {
        checkLayer(layer);
        return legsAcross(layer);
    }

    public int busiest() {
        int best = NONE;
        int most = 0;
        for (int layer = 0; layer < scene.layers.rows; layer++) {
            int legs = legsAcross(layer);
            if (legs > most) {
                best = layer;
                most = legs;
            }
        }
        return best;
    }

    public double meanIndex() {
        int weighted = 0;
        for (int layer = 0; layer < scene.layers.rows; layer++) {
            weighted += scene.layers.get(layer, INDEX) * scene.layers.get(layer, THICKNESS);
        }
        int thickness = scene.depthOf(scene.layers.rows);
        return thickness > 0 ? (double) weighted / (double) thickness : 0.0;
    }

    public float share(int shot) throws IndexOutOfBoundsException {
        checkShot(shot);
        return (float) runOf(scene, shot).power / 1000000.0f;
    }

    public int endIf(int shot, int layer, int index) throws IndexOutOfBoundsException, IllegalArgumentException {
        checkShot(shot);
        checkLayer(layer);
        checkRange(index, LEAST_INDEX, MOST_INDEX);
        trial.become(scene);
        trial.layers.set(layer, INDEX, index);
        return runOf(trial, shot).end;
    }

    public int bestWithout(int shot) throws IndexOutOfBoundsException {
        checkShot(shot);
        if (scene.layers.rows < 2) {
            return NONE;
        }
        int best = NONE;
        int most = 0;
        for (int layer = 0; layer < scene.layers.rows; layer++) {
            trial.become(scene);
            trial.layers.remove(layer);
            int power = runOf(trial, shot).power;
            if (best == NONE || power > most) {
                best = layer;
                most = power;
            }
        }
        return best;
    }

    public int addLayer(int at, int index, int thickness, int loss) throws IndexOutOfBoundsException, IllegalArgumentException, IllegalStateException {
        if (at < 0 || at > scene.layers.rows) {
            throw new IndexOutOfBoundsException("no such place for a layer");
        }
        checkRange(index, LEAST_INDEX, MOST_INDEX);
        checkRange(thickness, LEAST_THICKNESS, MOST_THICKNESS);
        checkRange(loss, 0, MOST_LOSS);
        if (scene.layers.rows >= MOST_LAYERS) {
            throw new IllegalStateException("there is no room for a layer");
        }
        history.remember(scene);
        scene.layers.insert(at, index, thickness, loss);
        return scene.layers.rows;
    }

    public int removeLayer(int layer) throws IndexOutOfBoundsException, IllegalStateException {
        checkLayer(layer);
        if (scene.layers.rows < 2) {
            throw new IllegalStateException("it is the only layer");
        }
        history.remember(scene);
        scene.layers.remove(layer);
        return scene.layers.rows;
    }

    public int setLayer(int layer, int what, int value) throws IndexOutOfBoundsException, IllegalArgumentException {
        checkLayer(layer);
        checkLayerValue(what, value);
        history.remember(scene);
        int before = scene.layers.get(layer, what);
        scene.layers.set(layer, what, value);
        return before;
    }

    public int swapLayers(int layer, int other) throws IndexOutOfBoundsException, IllegalArgumentException {
        checkLayer(layer);
        checkLayer(other);
        if (layer == other) {
            throw new IllegalArgumentException("both layers are the same");
        }
        history.remember(scene);
        trial.become(scene);
        scene.layers.swap(layer, other);
        int changed = 0;
        for (int shot = 0; shot < scene.shots.rows; shot++) {
            int before = runOf(trial, shot).end;
            if (runOf(scene, shot).end != before) {
                changed++;
            }
        }
        return changed;
    }

    public int setOutside(int index) throws IllegalArgumentException {
        checkRange(index, LEAST_INDEX, MOST_INDEX);
        history.remember(scene);
        int before = scene.outside;
        scene.outside = index;
        return before;
    }

    public int setOpen(int index) throws IllegalArgumentException {
        checkRange(index, LEAST_INDEX, MOST_INDEX);
        history.remember(scene);
        int before = scene.mirror ? WAS_MIRROR : scene.bottom;
        scene.setBottom(false, index);
        return before;
    }

    public int setMirror(int percents) throws IllegalArgumentException {
        checkRange(percents, 0, MOST_PERCENTS);
        history.remember(scene);
        int before = scene.mirror ? scene.bottom : NONE;
        scene.setBottom(true, percents);
        return before;
    }

    public int shoot(int layer, boolean down, int slant) throws IndexOutOfBoundsException, IllegalArgumentException, IllegalStateException {
        checkLayer(layer);
        checkRange(slant, 0, Math.min(MOST_SLANT, scene.indexAt(layer) - 1));
        int shot = scene.shots.rows;
        if (shot >= MOST_SHOTS) {
            throw new IllegalStateException("there is no room for a shot");
        }
        history.remember(scene);
        scene.shots.insert(shot, layer, down ? 1 : 0, slant);
        return shot;
    }

    public int turn(int shot, int slant) throws IndexOutOfBoundsException, IllegalArgumentException {
        checkShot(shot);
        checkRange(slant, 0, MOST_SLANT);
        history.remember(scene);
        scene.shots.set(shot, SHOT_SLANT, slant);
        return runOf(scene, shot).end;
    }

    public int dropShot(int shot) throws IndexOutOfBoundsException {
        checkShot(shot);
        history.remember(scene);
        scene.shots.remove(shot);
        return scene.shots.rows;
    }

    public int keep(int slot) throws IndexOutOfBoundsException {
        checkSlot(slot);
        Scene kept = sceneAt(slots, slot);
        if (kept == null) {
            kept = new Scene();
            slots[slot] = kept;
        }
        kept.become(scene);
        return scene.shots.rows;
    }

    public int restore(int slot) throws IndexOutOfBoundsException, IllegalStateException {
        checkSlot(slot);
        Scene kept = sceneAt(slots, slot);
        if (kept == null) {
            throw new IllegalStateException("nothing is kept there");
        }
        history.remember(scene);
        scene.become(kept);
        return scene.shots.rows;
    }

    public int undo() throws IllegalStateException {
        if (history.size == 0) {
            throw new IllegalStateException("there is nothing to undo");
        }
        history.recall(scene);
        return history.size;
    }

    public int undoCount() {
        return history.size;
    }

    public int writeLayers() {
        output.length = 0;
        for (int layer = 0; layer < scene.layers.rows; layer++) {
            if (layer > 0) {
                output.add('/');
            }
            output.addNumber(scene.layers.get(layer, INDEX));
            output.add('x');
            output.addNumber(scene.layers.get(layer, THICKNESS));
        }
        output.add(scene.mirror ? '#' : '|');
        output.addNumber(scene.bottom);
        return output.length;
    }

    public int writePath(int shot) throws IndexOutOfBoundsException {
        checkShot(shot);
        Path path = pathOf(ownPath, shot);
        output.length = 0;
        for (int leg = 0; leg < path.legs; leg++) {
            output.add(path.get(leg, LEG_DOWN) == 1 ? 'v' : '^');
            output.addNumber(path.get(leg, LEG_LAYER));
        }
        int end = path.end;
        if (end >= 0 && end < END_LETTERS.length()) {
            output.add(END_LETTERS.charAt(end));
        }
        return output.length;
    }

    public int outputByte(int index) throws NoSuchElementException {
        int value = output.get(index);
        if (value == NONE) {
            throw new NoSuchElementException("no such byte");
        }
        return value;
    }

    private static void checkRange(int value, int least, int most) {
        if (value < least || value > most) {
            throw new IllegalArgumentException("a value is out of range");
        }
    }

    private static void checkNotNegative(int value) {
        if (value < 0) {
            throw new IllegalArgumentException("a value is below 0");
        }
    }

    private void checkLayer(int layer) {
        if (!scene.layers.has(layer)) {
            throw new IndexOutOfBoundsException("no such layer");
        }
    }

    private void checkShot(int shot) {
        if (!scene.shots.has(shot)) {
            throw new IndexOutOfBoundsException("no such shot");
        }
    }

    private void checkSlot(int slot) {
        if (slot < 0 || slot >= SLOTS) {
            throw new IndexOutOfBoundsException("no such slot");
        }
    }

    private void checkLayerAndEnd(int layer, int end) {
        checkLayer(layer);
        checkRange(end, TOP, TRAPPED);
    }

    private void checkShotAndTime(int shot, int time) {
        checkShot(shot);
        checkNotNegative(time);
    }

    private void checkTwoShots(int shot, int other) {
        checkShot(shot);
        checkShot(other);
        if (shot == other) {
            throw new IllegalArgumentException("both shots are the same");
        }
    }

    private static void checkLayerValue(int what, int value) {
        switch (what) {
            case INDEX:
                checkRange(value, LEAST_INDEX, MOST_INDEX);
                break;
            case THICKNESS:
                checkRange(value, LEAST_THICKNESS, MOST_THICKNESS);
                break;
            case LOSS:
                checkRange(value, 0, MOST_LOSS);
                break;
            default:
                throw new IllegalArgumentException("no such number of a layer");
        }
    }

    private Ray runOf(Scene through, int shot) {
        Table shots = through.shots;
        ray.enter(through);
        ray.run(shots.get(shot, SHOT_LAYER), shots.get(shot, SHOT_DOWN) == 1, shots.get(shot, SHOT_SLANT));
        return ray;
    }

    private Path pathOf(Path path, int shot) {
        Table shots = scene.shots;
        path.trace(scene, shots.get(shot, SHOT_LAYER), shots.get(shot, SHOT_DOWN) == 1, shots.get(shot, SHOT_SLANT));
        return path;
    }

    private int legsAcross(int layer) {
        int legs = 0;
        for (int shot = 0; shot < scene.shots.rows; shot++) {
            legs += pathOf(ownPath, shot).legsAcross(layer);
        }
        return legs;
    }

    private static int at(int[] row, int place) {
        return row != null && place >= 0 && place < row.length ? row[place] : 0;
    }

    private static void put(int[] row, int place, int value) {
        if (row != null && place >= 0 && place < row.length) {
            row[place] = value;
        }
    }

    private static Scene sceneAt(Scene[] row, int place) {
        return row != null && place >= 0 && place < row.length ? row[place] : null;
    }

    private static final class Bytes {
        private final byte[] bytes = new byte[MOST_BYTES];
        int length = 0;

        /** The byte as 0 to 255, or NONE where there is none. */
        int get(int place) {
            return place >= 0 && place < length && place < bytes.length ? bytes[place] & 255 : NONE;
        }

        void add(int value) {
            if (length >= 0 && length < bytes.length) {
                bytes[length] = (byte) value;
                length++;
            }
        }

        void addFour(int value) {
            for (int shift = 24; shift >= 0; shift -= 8) {
                add(value >> shift);
            }
        }

        /** A number below 10000, as all written ones are. */
        void addNumber(int number) {
            for (int unit = 1000; unit > 0; unit /= 10) {
                if (number >= unit || unit == 1) {
                    add('0' + number / unit % 10);
                }
            }
        }
    }

    /** Rows of three numbers. Whether a row is there is asked by has(); beyond the room nothing is set, and all is 0. */
    private static final class Table {
        private final int[] cells = new int[MOST_SHOTS * COLUMNS];
        int rows = 0;

        boolean has(int row) {
            return row >= 0 && row < rows;
        }

        int get(int row, int column) {
            int place = row * COLUMNS + column;
            return place >= 0 && place < cells.length ? cells[place] : 0;
        }

        void set(int row, int column, int value) {
            put(cells, row * COLUMNS + column, value);
        }

        void insert(int row, int first, int second, int third) {
            for (int moved = rows; moved > row; moved--) {
                copyRow(moved - 1, moved);
            }
            set(row, 0, first);
            set(row, 1, second);
            set(row, 2, third);
            rows++;
        }

        void remove(int row) {
            for (int moved = row; moved + 1 < rows; moved++) {
                copyRow(moved + 1, moved);
            }
            rows--;
        }

        void swap(int row, int other) {
            for (int column = 0; column < COLUMNS; column++) {
                int value = get(row, column);
                set(row, column, get(other, column));
                set(other, column, value);
            }
        }

        void become(Table other) {
            System.arraycopy(other.cells, 0, cells, 0, Math.min(other.cells.length, cells.length));
            rows = other.rows;
        }

        private void copyRow(int from, int to) {
            for (int column = 0; column < COLUMNS; column++) {
                set(to, column, get(from, column));
            }
        }
    }

    /** All that undo() restores. */
    private static final class Scene {
        final Table layers = new Table();
        final Table shots = new Table();
        int outside = USUAL_INDEX;
        boolean mirror = false;
        int bottom = USUAL_INDEX;

        void empty() {
            layers.rows = 0;
            shots.rows = 0;
            outside = USUAL_INDEX;
            setBottom(false, USUAL_INDEX);
        }

        void become(Scene other) {
            layers.become(other.layers);
            shots.become(other.shots);
            outside = other.outside;
            setBottom(other.mirror, other.bottom);
        }

        void setBottom(boolean isMirror, int value) {
            mirror = isMirror;
            bottom = value;
        }

        /** The thickness of all layers above this one. */
        int depthOf(int layer) {
            int depth = 0;
            for (int above = 0; above < layer && above < layers.rows; above++) {
                depth += layers.get(above, THICKNESS);
            }
            return depth;
        }

        boolean isMirrorAt(int layer) {
            return mirror && layer >= layers.rows;
        }

        /** The index of a layer or, beyond the layers, of what is there; 0 of a mirror, which no ray passes. */
        int indexAt(int layer) {
            if (layer < 0) {
                return outside;
            }
            if (layer >= layers.rows) {
                return mirror ? 0 : bottom;
            }
            return layers.get(layer, INDEX);
        }

        boolean canBegin(int layer, int slant) {
            return layers.has(layer) && slant < layers.get(layer, INDEX);
        }
    }

    /** The latest scenes, in a ring. */
    private static final class History {
        private final Scene[] past = new Scene[MOST_UNDOS];
        private int next = 0;
        int size = 0;

        void remember(Scene scene) {
            Scene kept = sceneAt(past, next);
            if (kept == null) {
                kept = new Scene();
                if (next >= 0 && next < past.length) {
                    past[next] = kept;
                }
            }
            kept.become(scene);
            next = (next + 1) % MOST_UNDOS;
            size = Math.min(size + 1, MOST_UNDOS);
        }

        void recall(Scene scene) {
            next = (next + MOST_UNDOS - 1) % MOST_UNDOS;
            size--;
            Scene kept = sceneAt(past, next);
            if (kept != null) {
                scene.become(kept);
            }
        }
    }

    /** A ray that goes through a scene leg by leg; what it has behind it is summed up. */
    private static final class Ray {
        /** The index at each place from above the first layer to below the last one. */
        private final int[] indexOfPlace = new int[MOST_LAYERS + 2];
        private final int[] shiftOfLayer = new int[MOST_LAYERS];
        private final int[] lengthOfLayer = new int[MOST_LAYERS];
        private final int[] timeOfLayer = new int[MOST_LAYERS];
        private Scene scene;
        private int slant;
        int layer;
        boolean down;
        int legs;
        int end;
        int shifts;
        int lengths;
        int times;
        int power;
        int totalReflections;
        int mirrorings;
        int crossings;
        int deepest;

        Ray(Scene scene) {
            this.scene = scene;
        }

        /** Must be called anew when the scene has changed. */
        void enter(Scene entered) {
            scene = entered;
            for (int place = -1; place <= scene.layers.rows; place++) {
                put(indexOfPlace, place + 1, scene.indexAt(place));
            }
        }

        void run(int fromLayer, boolean goesDown, int withSlant) {
            begin(fromLayer, goesDown, withSlant);
            for (int leg = 0; leg < MOST_LEGS && isUnderWay(); leg++) {
                cross();
                goOn();
            }
        }

        void begin(int fromLayer, boolean goesDown, int withSlant) {
            layer = fromLayer;
            down = goesDown;
            slant = withSlant;
            legs = 0;
            shifts = 0;
            lengths = 0;
            times = 0;
            totalReflections = 0;
            mirrorings = 0;
            crossings = 0;
            deepest = NONE;
            boolean begins = scene.canBegin(layer, slant);
            end = begins ? NONE : NO_BEGIN;
            power = begins ? FULL_POWER : 0;
            Arrays.fill(timeOfLayer, 0);
        }

        boolean isUnderWay() {
            return end == NONE;
        }

        boolean isOut() {
            return end == TOP || end == BOTTOM;
        }

        int shiftIn(int crossed) {
            return at(shiftOfLayer, crossed);
        }

        int lengthIn(int crossed) {
            return at(lengthOfLayer, crossed);
        }

        int timeIn(int crossed) {
            return at(timeOfLayer, crossed);
        }

        void cross() {
            // A leg takes some time in any layer, so 0 tells a layer that is not measured yet.
            if (timeIn(layer) == 0) {
                measure();
            }
            int length = lengthIn(layer);
            legs++;
            shifts += shiftIn(layer);
            lengths += length;
            times += timeIn(layer);
            deepest = Math.max(deepest, layer);
            long lost = (long) power * scene.layers.get(layer, LOSS) * length / 1000000;
            power = (int) Math.max(0, power - lost);
        }

        private void measure() {
            int index = scene.layers.get(layer, INDEX);
            int thickness = scene.layers.get(layer, THICKNESS);
            int root = rootOf(index * index - slant * slant);
            if (root > 0) {
                int length = thickness * index / root;
                put(shiftOfLayer, layer, thickness * slant / root);
                put(lengthOfLayer, layer, length);
                put(timeOfLayer, layer, length * index / 1000);
            }
        }

        /** The root of a number below 4096 * 4096, bit by bit. */
        private static int rootOf(int number) {
            int root = 0;
            for (int bit = 2048; bit > 0; bit /= 2) {
                int greater = root + bit;
                if (greater * greater <= number) {
                    root = greater;
                }
            }
            return root;
        }

        /** Does what happens behind a leg, and tells it. */
        int goOn() {
            if (power == 0) {
                return endWith(ABSORBED, IS_ABSORBED);
            }
            int behind = down ? layer + 1 : layer - 1;
            boolean passes = at(indexOfPlace, behind + 1) > slant;
            if (passes && !scene.layers.has(behind)) {
                return down ? endWith(BOTTOM, OUT_AT_BOTTOM) : endWith(TOP, OUT_AT_TOP);
            }
            if (legs >= MOST_LEGS) {
                return endWith(TRAPPED, IS_TRAPPED);
            }
            if (passes) {
                return passInto(behind);
            }
            return scene.isMirrorAt(behind) ? mirrorBack() : turnBack();
        }

        private int endWith(int itsEnd, int event) {
            end = itsEnd;
            return event;
        }

        private int passInto(int behind) {
            long difference = at(indexOfPlace, behind + 1) - at(indexOfPlace, layer + 1);
            long sum = at(indexOfPlace, behind + 1) + at(indexOfPlace, layer + 1);
            if (sum > 0) {
                power -= (int) (power * (difference * difference) / (sum * sum));
            }
            layer = behind;
            crossings++;
            return PASSES;
        }

        private int turnBack() {
            down = !down;
            totalReflections++;
            return TOTAL_REFLECTION;
        }

        private int mirrorBack() {
            mirrorings++;
            power = power * scene.bottom / 100;
            if (power == 0) {
                return endWith(ABSORBED, IS_ABSORBED);
            }
            down = false;
            return MIRRORING;
        }
    }

    /** A path with all its legs. */
    private static final class Path {
        private final int[][] numbers = new int[LEG_NUMBERS][MOST_LEGS];
        private final Ray ray;
        int legs = 0;
        int end = NO_BEGIN;

        Path(Scene scene) {
            ray = new Ray(scene);
        }

        void trace(Scene scene, int layer, boolean down, int slant) {
            ray.enter(scene);
            ray.begin(layer, down, slant);
            for (int leg = 0; leg < MOST_LEGS && ray.isUnderWay(); leg++) {
                int crossed = ray.layer;
                set(leg, LEG_LAYER, crossed);
                set(leg, LEG_DOWN, ray.down ? 1 : 0);
                ray.cross();
                set(leg, LEG_SHIFT, ray.shiftIn(crossed));
                set(leg, LEG_LENGTH, ray.lengthIn(crossed));
                set(leg, LEG_TIME, ray.timeIn(crossed));
                set(leg, LEG_POWER, ray.power);
                set(leg, LEG_EVENT, ray.goOn());
            }
            legs = ray.legs;
            end = ray.end;
        }

        private void set(int leg, int what, int value) {
            if (what >= 0 && what < numbers.length) {
                put(numbers[what], leg, value);
            }
        }

        /** A number of a leg; 0 behind the last leg. */
        int get(int leg, int what) {
            return leg < legs && what >= 0 && what < numbers.length ? at(numbers[what], leg) : 0;
        }

        int sumAhead(int leg, int what) {
            int sum = 0;
            for (int ahead = 0; ahead < leg && ahead < legs; ahead++) {
                sum += get(ahead, what);
            }
            return sum;
        }

        /** The leg on which the ray is at this time; the number of legs if it is on none. */
        int legDuring(int time) {
            int sum = 0;
            for (int leg = 0; leg < legs; leg++) {
                sum += get(leg, LEG_TIME);
                if (sum > time) {
                    return leg;
                }
            }
            return legs;
        }

        /** The part of something along a leg that is done at this time. */
        int partOfLeg(int leg, int time, int whole) {
            int legTime = get(leg, LEG_TIME);
            long timeOnLeg = (long) time - sumAhead(leg, LEG_TIME);
            return legTime > 0 ? (int) (whole * timeOnLeg / legTime) : 0;
        }

        int legsAcross(int layer) {
            int found = 0;
            for (int leg = 0; leg < legs; leg++) {
                if (get(leg, LEG_LAYER) == layer) {
                    found++;
                }
            }
            return found;
        }

        int legsAlike(Path other) {
            int leg = 0;
            while (leg < legs && leg < other.legs
                    && get(leg, LEG_LAYER) == other.get(leg, LEG_LAYER)
                    && get(leg, LEG_DOWN) == other.get(leg, LEG_DOWN)) {
                leg++;
            }
            return leg;
        }

        /** Goes from leg end to leg end of both: between them no ray changes its layer. */
        int meetingTime(Path other) {
            int ownLeg = 0;
            int otherLeg = 0;
            int time = 0;
            for (int asked = 0; asked <= 2 * MOST_LEGS && ownLeg < legs && otherLeg < other.legs; asked++) {
                if (get(ownLeg, LEG_LAYER) == other.get(otherLeg, LEG_LAYER)) {
                    return time;
                }
                int ownEnd = sumAhead(ownLeg + 1, LEG_TIME);
                int otherEnd = other.sumAhead(otherLeg + 1, LEG_TIME);
                time = Math.min(ownEnd, otherEnd);
                if (ownEnd == time) {
                    ownLeg++;
                }
                if (otherEnd == time) {
                    otherLeg++;
                }
            }
            return NONE;
        }
    }

    /**
     * Looks at all slants with which a shot could begin at one side of a layer, part by part. A part is the longest run
     * of slants whose paths have the same legs and the same end. On a path of the same legs a greater slant never has
     * more power nor lower sums; so the ends of a part tell enough, and its own end is found by halving.
     */
    private static final class Survey {
        private static final int MOST_PARTS = (MOST_LAYERS + 3) * (MOST_LEGS + 1);
        private static final int MOST_PROBES = 32;

        private final Scene scene;
        private final Ray ray;
        private int layer;
        private boolean down;
        private int slantsInAll;
        private int from;
        private int to;
        private int endOfPart;
        private int legsOfPart;
        int best = NONE;
        long bestScore = 0;

        Survey(Scene scene) {
            this.scene = scene;
            ray = new Ray(scene);
        }

        private void start(int ofLayer, boolean goesDown) {
            ray.enter(scene);
            layer = ofLayer;
            down = goesDown;
            slantsInAll = scene.indexAt(ofLayer);
            to = 0;
            best = NONE;
        }

        private boolean nextPart() {
            from = to;
            if (from >= slantsInAll) {
                return false;
            }
            ray.run(layer, down, from);
            endOfPart = ray.end;
            legsOfPart = ray.legs;
            to = from + 1;
            int stop = sameTurnsUntil();
            for (int probes = 0; probes < MOST_PROBES && to < stop; probes++) {
                // The last slant first: mostly it is still of the same part.
                int slant = probes == 0 ? stop - 1 : (to + stop) / 2;
                ray.run(layer, down, slant);
                if (ray.end == endOfPart && ray.legs == legsOfPart) {
                    to = slant + 1;
                } else {
                    stop = slant;
                }
            }
            return true;
        }

        /** The next slant that is totally reflected somewhere where the first one of the part passes. */
        private int sameTurnsUntil() {
            int until = slantsInAll;
            for (int place = -1; place <= scene.layers.rows; place++) {
                int index = scene.indexAt(place);
                if (index > from && index < until) {
                    until = index;
                }
            }
            return until;
        }

        int countSlants(int ofLayer, boolean goesDown, int end) {
            start(ofLayer, goesDown);
            int found = 0;
            for (int part = 0; part < MOST_PARTS && nextPart(); part++) {
                if (endOfPart == end) {
                    found += to - from;
                }
            }
            return found;
        }

        int lowestSlant(int ofLayer, boolean goesDown, int end) {
            start(ofLayer, goesDown);
            for (int part = 0; part < MOST_PARTS && nextPart(); part++) {
                if (endOfPart == end) {
                    return from;
                }
            }
            return NONE;
        }

        void findBest(int ofLayer, boolean goesDown, int end, int goal) {
            start(ofLayer, goesDown);
            for (int part = 0; part < MOST_PARTS && nextPart(); part++) {
                if (endOfPart == end) {
                    int slant = goal == FOR_MOST_SHIFT ? to - 1 : from;
                    ray.run(layer, down, slant);
                    consider(slant, scoreFor(goal));
                }
            }
        }

        int nearestSlant(int ofLayer, boolean goesDown, int shift) {
            start(ofLayer, goesDown);
            for (int part = 0; part < MOST_PARTS && nextPart(); part++) {
                if (endOfPart == TOP) {
                    considerNearest(shift);
                }
            }
            return best;
        }

        private void considerNearest(int shift) {
            int reached = firstReaching(shift);
            if (reached > from) {
                int lessShift = shiftsWith(reached - 1);
                consider(firstReaching(lessShift), (long) lessShift - shift);
            }
            if (reached < to) {
                consider(reached, (long) shift - shiftsWith(reached));
            }
        }

        /** The first slant of the part with at least this sum of shifts; behind the part if there is none. */
        private int firstReaching(int shift) {
            int low = from;
            int high = to;
            for (int probes = 0; probes < MOST_PROBES && low < high; probes++) {
                int slant = (low + high) / 2;
                ray.run(layer, down, slant);
                if (ray.shifts >= shift) {
                    high = slant;
                } else {
                    low = slant + 1;
                }
            }
            return low;
        }

        private int shiftsWith(int slant) {
            ray.run(layer, down, slant);
            return ray.shifts;
        }

        private int scoreFor(int goal) {
            switch (goal) {
                case FOR_LEAST_TIME:
                    return -ray.times;
                case FOR_MOST_POWER:
                    return ray.power;
                default:
                    return ray.shifts;
            }
        }

        private void consider(int slant, long score) {
            if (best == NONE || score > bestScore) {
                best = slant;
                bestScore = score;
            }
        }
    }

    /** Reads the statements of a text into a scene, up to the first token with an error. */
    private static final class Parser {
        private static final int END = 0, WORD = 1, NUMBER = 2, SYMBOL = 3;
        private static final int MISPLACED = 1, OUT_OF_RANGE = 2, TOLD_TWICE = 3, LAYER_NOT_TOLD = 4, TOO_SLANT = 5, TOO_MANY = 6;
        private static final int TOO_GREAT = 1000000;

        private final Bytes text;
        private final Scene scene;
        private int position;
        private int start;
        private int kind;
        private int number;
        private boolean outsideTold;
        private boolean bottomTold;
        int errorCode = 0;
        int errorStart = NONE;

        Parser(Bytes text, Scene scene) {
            this.text = text;
            this.scene = scene;
        }

        /** Whether the text has no error. */
        boolean parse() {
            scene.empty();
            position = 0;
            outsideTold = false;
            bottomTold = false;
            errorCode = 0;
            errorStart = NONE;
            readToken();
            boolean good = parseStatement();
            for (int parsed = 1; parsed <= MOST_BYTES && good && kind != END; parsed++) {
                good = parseStatement();
            }
            return good;
        }

        private boolean parseStatement() {
            if (isWord("layer")) {
                return parseLayer();
            }
            if (scene.layers.rows == 0) {
                return fail(MISPLACED);
            }
            if (isWord("outside")) {
                return parseOutside();
            }
            if (isWord("bottom")) {
                return parseBottom();
            }
            return isWord("shot") ? parseShot() : fail(MISPLACED);
        }

        private boolean parseLayer() {
            if (scene.layers.rows >= MOST_LAYERS) {
                return fail(TOO_MANY);
            }
            readToken();
            if (!isNumber(LEAST_INDEX, MOST_INDEX)) {
                return false;
            }
            int index = takeNumber();
            if (!takeWord("thick") || !isNumber(LEAST_THICKNESS, MOST_THICKNESS)) {
                return false;
            }
            int thickness = takeNumber();
            int loss = 0;
            if (isWord("loss")) {
                readToken();
                if (!isNumber(0, MOST_LOSS)) {
                    return false;
                }
                loss = takeNumber();
            }
            scene.layers.insert(scene.layers.rows, index, thickness, loss);
            return takeSemicolon();
        }

        private boolean parseOutside() {
            if (outsideTold) {
                return fail(TOLD_TWICE);
            }
            outsideTold = true;
            readToken();
            if (!isNumber(LEAST_INDEX, MOST_INDEX)) {
                return false;
            }
            scene.outside = takeNumber();
            return takeSemicolon();
        }

        private boolean parseBottom() {
            if (bottomTold) {
                return fail(TOLD_TWICE);
            }
            bottomTold = true;
            readToken();
            boolean isMirror = isWord("mirror");
            if (!isMirror && !isWord("open")) {
                return fail(MISPLACED);
            }
            readToken();
            if (!isNumber(isMirror ? 0 : LEAST_INDEX, isMirror ? MOST_PERCENTS : MOST_INDEX)) {
                return false;
            }
            scene.setBottom(isMirror, takeNumber());
            return takeSemicolon();
        }

        private boolean parseShot() {
            if (scene.shots.rows >= MOST_SHOTS) {
                return fail(TOO_MANY);
            }
            readToken();
            if (!isNumber(0, MOST_LAYERS - 1)) {
                return false;
            }
            if (!scene.layers.has(number)) {
                return fail(LAYER_NOT_TOLD);
            }
            int layer = takeNumber();
            boolean down = isWord("down");
            if (!down && !isWord("up")) {
                return fail(MISPLACED);
            }
            readToken();
            if (!isNumber(0, MOST_SLANT)) {
                return false;
            }
            if (!scene.canBegin(layer, number)) {
                return fail(TOO_SLANT);
            }
            scene.shots.insert(scene.shots.rows, layer, down ? 1 : 0, takeNumber());
            return takeSemicolon();
        }

        private boolean fail(int code) {
            errorCode = code;
            errorStart = start;
            return false;
        }

        private boolean isWord(String word) {
            if (kind != WORD || position - start != word.length()) {
                return false;
            }
            for (int i = 0; i < word.length(); i++) {
                if (text.get(start + i) != word.charAt(i)) {
                    return false;
                }
            }
            return true;
        }

        /** Whether the token is a number in this range; if not, the text fails. */
        private boolean isNumber(int least, int most) {
            if (kind != NUMBER) {
                return fail(MISPLACED);
            }
            return (number >= least && number <= most) || fail(OUT_OF_RANGE);
        }

        private int takeNumber() {
            int taken = number;
            readToken();
            return taken;
        }

        private boolean takeWord(String word) {
            if (!isWord(word)) {
                return fail(MISPLACED);
            }
            readToken();
            return true;
        }

        private boolean takeSemicolon() {
            if (kind != SYMBOL || text.get(start) != ';') {
                return fail(MISPLACED);
            }
            readToken();
            return true;
        }

        private void readToken() {
            while (position < text.length && isBlank(text.get(position))) {
                position++;
            }
            start = position;
            int first = text.get(position);
            if (first == NONE) {
                kind = END;
            } else if (isLetter(first)) {
                kind = WORD;
                while (position < text.length && isLetter(text.get(position))) {
                    position++;
                }
            } else if (isDigit(first)) {
                kind = NUMBER;
                number = 0;
                while (position < text.length && isDigit(text.get(position))) {
                    // A number may have any length; beyond all ranges its value does not matter.
                    number = Math.min(TOO_GREAT, number * 10 + text.get(position) - '0');
                    position++;
                }
            } else {
                kind = SYMBOL;
                position++;
            }
        }

        private static boolean isBlank(int value) {
            return value == ' ' || value == '\n';
        }

        private static boolean isLetter(int value) {
            return value >= 'a' && value <= 'z';
        }

        private static boolean isDigit(int value) {
            return value >= '0' && value <= '9';
        }
    }
}
