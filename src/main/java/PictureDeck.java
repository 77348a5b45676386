import java.util.Arrays;

/**
 * Puts moving pictures together from what a reader of their stream tells: pictures for themselves,
 * pictures told by one before, and pictures told by one before and one behind.
 */
public final class PictureDeck {
    private static final int MOST_ACROSS = 4;
    private static final int MOST_DOWN = 3;
    private static final int MOST_REACH = 16;
    private static final int MOST_SCALE = 31;
    private static final int MOST_LEVEL = 255;

    private static final int NO_PICTURE = 0;
    private static final int FOR_ITSELF = 1;
    private static final int BY_NEW = 2;
    private static final int BY_BOTH = 3;

    private static final int PLANES = 3;
    private static final int BLOCKS = 6;
    private static final int EDGE = 8;
    private static final int PLACES = 64;
    private static final int BRIGHTEST = 255;
    private static final int GREY = 128;

    // Directions are bits, so that one number tells which of them a square was fetched by.
    private static final int NOWHERE = 0;
    private static final int FORWARD = 1;
    private static final int BACKWARD = 2;

    private final Shelf shelf;
    private final Blocks blocks;
    private final Motion motion;
    private final Coming coming;
    private int across;
    private int down;
    private int kind;
    private int made;
    // Of the square made last; NOWHERE before the first one and behind one for itself, as leave() refuses both alike.
    private int fetchedBy;

    public PictureDeck() {
        shelf = new Shelf();
        blocks = new Blocks();
        motion = new Motion();
        coming = new Coming();
        beginAnew(1, 1);
    }

    public void size(int w, int h) throws IllegalArgumentException {
        if (!isWithin(w, 1, MOST_ACROSS) || !isWithin(h, 1, MOST_DOWN)) {
            throw new IllegalArgumentException("no such size");
        }
        beginAnew(w, h);
    }

    public int matrix(int which, int i, int v) throws IllegalArgumentException {
        if (!isWithin(which, 0, 1) || !isWithin(i, 0, PLACES - 1) || !isWithin(v, 1, 255)) {
            throw new IllegalArgumentException("no such matrix, place or number");
        }
        int was = blocks.matrices[which][i];
        blocks.matrices[which][i] = v;
        return was;
    }

    public void begin(int kind, int forward, int backward, boolean whole)
            throws IllegalArgumentException, IllegalStateException {
        if (!isWithin(kind, FOR_ITSELF, BY_BOTH)
                || !isWithin(forward, 1, MOST_REACH) || !isWithin(backward, 1, MOST_REACH)) {
            throw new IllegalArgumentException("no such kind or reach");
        }
        if (this.kind != NO_PICTURE) {
            throw new IllegalStateException("a picture is open");
        }
        this.kind = kind;
        fetchedBy = NOWHERE;
        motion.prepare(forward, backward, whole);
        blocks.prepare();
    }

    public void scale(int q) throws IllegalArgumentException, IllegalStateException {
        if (!isWithin(q, 1, MOST_SCALE)) {
            throw new IllegalArgumentException("no such scale");
        }
        if (kind == NO_PICTURE) {
            throw new IllegalStateException("no picture is open");
        }
        blocks.factor = q;
    }

    public void itself() throws IllegalStateException {
        if (squaresLeft() == 0 || coming.directions != NOWHERE) {
            throw new IllegalStateException("no square to come, or a vector was told for it");
        }
        coming.forItself = true;
        coming.anything = true;
    }

    public void vector(int direction, int dx, int dy) throws IllegalArgumentException, IllegalStateException {
        if (!isWithin(direction, 0, 1) || !motion.reaches(direction, dx) || !motion.reaches(direction, dy)) {
            throw new IllegalArgumentException("no such direction, or out of reach");
        }
        if (squaresLeft() == 0 || coming.forItself || !kindHas(direction)) {
            throw new IllegalStateException("no square to come that has such a vector");
        }
        motion.move(direction, dx, dy);
        coming.directions |= direction == 0 ? FORWARD : BACKWARD;
        coming.anything = true;
    }

    public void level(int block, int i, int v) throws IllegalArgumentException, IllegalStateException {
        if (!isWithin(block, 0, BLOCKS - 1) || !isWithin(i, 0, PLACES - 1)
                || !isWithin(v, -MOST_LEVEL, MOST_LEVEL)) {
            throw new IllegalArgumentException("no such block, place or level");
        }
        if (squaresLeft() == 0) {
            throw new IllegalStateException("no square to come");
        }
        coming.levels[block * PLACES + i] = v;
        coming.anything = true;
    }

    public int square() throws IllegalStateException {
        if (squaresLeft() == 0 || !isEnoughTold()) {
            throw new IllegalStateException("no square to come, or too little was told for it");
        }
        if (coming.forItself) {
            makeForItself();
        } else {
            makeFetched();
        }
        coming.clear();
        made++;
        return made;
    }

    public int leave(int n) throws IllegalArgumentException, IllegalStateException {
        if (!isWithin(n, 1, squaresLeft())) {
            throw new IllegalArgumentException("not so many squares are left");
        }
        if (!mayLeaveOut()) {
            throw new IllegalStateException("no square may be left out here");
        }
        if (kind == BY_NEW) {
            motion.rest();
            fetchedBy = FORWARD;
        }
        for (int i = 0; i < n; i++) {
            fetchSquare();
            made++;
        }
        blocks.forgetPasts();
        return made;
    }

    public int done() throws IllegalStateException {
        if (kind == NO_PICTURE || squaresLeft() != 0) {
            throw new IllegalStateException("no picture is open, or squares are missing");
        }
        if (kind == BY_BOTH) {
            shelf.showOpen();
        } else {
            shelf.turnOpenIntoReference();
        }
        shelf.doneCount++;
        kind = NO_PICTURE;
        made = 0;
        return shelf.shownCount;
    }

    public int last() throws IllegalStateException {
        if (kind != NO_PICTURE) {
            throw new IllegalStateException("a picture is open");
        }
        shelf.showNewer();
        return shelf.shownCount;
    }

    public int sample(int plane, int x, int y) throws IllegalStateException, IndexOutOfBoundsException {
        if (shelf.shownCount == 0) {
            throw new IllegalStateException("no picture was shown");
        }
        if (!isWithin(plane, 0, PLANES - 1) || !shelf.shown.planes[plane].holds(x, y)) {
            throw new IndexOutOfBoundsException("no such sample");
        }
        return shelf.shown.planes[plane].nearest(x, y);
    }

    public int colour(int x, int y) throws IllegalStateException, IndexOutOfBoundsException {
        if (shelf.shownCount == 0) {
            throw new IllegalStateException("no picture was shown");
        }
        if (!shelf.shown.planes[0].holds(x, y)) {
            throw new IndexOutOfBoundsException("no such sample");
        }
        return shelf.shown.mixed(x, y);
    }

    public void light(float gain, float offset) throws IllegalArgumentException, IllegalStateException {
        // Asked for as what must hold, so that a NaN is refused too.
        boolean fits = gain >= -1000f && gain <= 1000f && offset >= -100000f && offset <= 100000f;
        if (!fits) {
            throw new IllegalArgumentException("no such gain or offset");
        }
        if (shelf.shownCount == 0) {
            throw new IllegalStateException("no picture was shown");
        }
        shelf.shown.planes[0].brighten(gain, offset);
    }

    public void keep() throws IllegalStateException {
        if (shelf.shownCount == 0) {
            throw new IllegalStateException("no picture was shown");
        }
        shelf.keepShown();
    }

    public float error() throws IllegalStateException {
        if (shelf.shownCount == 0 || !shelf.hasKept) {
            throw new IllegalStateException("no picture was shown, or none is kept");
        }
        return shelf.shown.planes[0].meanSquareTo(shelf.kept);
    }

    public int told(int what) throws IllegalArgumentException {
        if (!isWithin(what, 0, 10)) {
            throw new IllegalArgumentException("nothing such is told");
        }
        if (what >= 8) {
            return blocks.pasts[what - 8];
        }
        if (what >= 4) {
            return motion.parts[what - 4];
        }
        switch (what) {
            case 0:
                return kind;
            case 1:
                return made;
            case 2:
                return shelf.doneCount;
            default:
                return shelf.shownCount;
        }
    }

    private void beginAnew(int w, int h) {
        across = w;
        down = h;
        kind = NO_PICTURE;
        made = 0;
        shelf.clear(w, h);
        blocks.clear();
        motion.prepare(1, 1, false);
        coming.clear();
    }

    private int squaresLeft() {
        return kind == NO_PICTURE ? 0 : across * down - made;
    }

    private boolean kindHas(int direction) {
        return kind == BY_BOTH || kind == BY_NEW && direction == 0;
    }

    private boolean isEnoughTold() {
        return coming.forItself || kind == BY_NEW || kind == BY_BOTH && coming.directions != NOWHERE;
    }

    private boolean mayLeaveOut() {
        return !coming.anything && (kind == BY_NEW || kind == BY_BOTH && fetchedBy != NOWHERE);
    }

    private void makeForItself() {
        motion.rest();
        fetchedBy = NOWHERE;
        for (int block = 0; block < BLOCKS; block++) {
            blocks.turnForItself(coming.levels, block);
            placeBlock(block, false);
        }
    }

    private void makeFetched() {
        if (coming.directions == NOWHERE) {
            motion.rest();
        }
        fetchedBy = kind == BY_NEW ? FORWARD : coming.directions;
        fetchSquare();
        for (int block = 0; block < BLOCKS; block++) {
            blocks.turnDifference(coming.levels, block);
            placeBlock(block, true);
        }
        blocks.forgetPasts();
    }

    private void placeBlock(int block, boolean onFetched) {
        int plane = planeOf(block);
        int left = squareLeft(plane);
        int top = squareTop(plane);
        if (plane == 0) {
            left += (block & 1) * EDGE;
            top += (block >> 1) * EDGE;
        }
        shelf.open.planes[plane].putBlock(left, top, blocks.turned, onFetched);
    }

    private void fetchSquare() {
        boolean forward = (fetchedBy & FORWARD) != 0;
        if (forward) {
            fetchBy(0, kind == BY_NEW ? shelf.newer : shelf.older, false);
        }
        if ((fetchedBy & BACKWARD) != 0) {
            fetchBy(1, shelf.newer, forward);
        }
    }

    private void fetchBy(int direction, Picture from, boolean mixing) {
        for (int plane = 0; plane < PLANES; plane++) {
            int dx = motion.used(plane, 2 * direction);
            int dy = motion.used(plane, 2 * direction + 1);
            Plane target = shelf.open.planes[plane];
            target.fetchSquare(from.planes[plane], squareLeft(plane), squareTop(plane), dx, dy, mixing);
        }
    }

    private int squareLeft(int plane) {
        return made % across * squareSide(plane);
    }

    private int squareTop(int plane) {
        return made / across * squareSide(plane);
    }

    private static int squareSide(int plane) {
        return plane == 0 ? 2 * EDGE : EDGE;
    }

    private static int planeOf(int block) {
        return block < 4 ? 0 : block - 3;
    }

    private static boolean isWithin(int v, int least, int most) {
        return v >= least && v <= most;
    }

    private static int bounded(int v, int least, int most) {
        if (v < least) {
            return least;
        }
        return v > most ? most : v;
    }

    /** One plane of a picture, or of what is kept of it; its row has room for every size, so that no call makes one. */
    private static final class Plane {
        private final int side;
        private final int[] samples;
        private int width;
        private int height;

        Plane(int side) {
            this.side = side;
            samples = new int[side * MOST_ACROSS * side * MOST_DOWN];
            width = side;
            height = side;
        }

        void clear(int w, int h) {
            width = side * w;
            height = side * h;
            Arrays.fill(samples, GREY);
        }

        void copyFrom(Plane other) {
            System.arraycopy(other.samples, 0, samples, 0, width * height);
        }

        boolean holds(int x, int y) {
            return isWithin(x, 0, width - 1) && isWithin(y, 0, height - 1);
        }

        int nearest(int x, int y) {
            return samples[bounded(y, 0, height - 1) * width + bounded(x, 0, width - 1)];
        }

        void put(int x, int y, int v) {
            if (holds(x, y)) {
                samples[y * width + x] = bounded(v, 0, BRIGHTEST);
            }
        }

        void putBlock(int left, int top, int[] block, boolean onFetched) {
            for (int i = 0; i < PLACES; i++) {
                int x = left + i % EDGE;
                int y = top + i / EDGE;
                put(x, y, onFetched ? nearest(x, y) + block[i] : block[i]);
            }
        }

        void fetchSquare(Plane from, int left, int top, int dx, int dy, boolean mixing) {
            for (int y = top; y < top + side; y++) {
                for (int x = left; x < left + side; x++) {
                    int v = from.fetched(x, y, dx, dy);
                    put(x, y, mixing ? (nearest(x, y) + v + 1) >> 1 : v);
                }
            }
        }

        /** Adds four samples always: where one or two are due they come doubled, and so does the rounding. */
        private int fetched(int x, int y, int dx, int dy) {
            int left = x + (dx >> 1);
            int top = y + (dy >> 1);
            int right = left + (dx & 1);
            int below = top + (dy & 1);
            int above = nearest(left, top) + nearest(right, top);
            return (above + nearest(left, below) + nearest(right, below) + 2) >> 2;
        }

        void brighten(float gain, float offset) {
            for (int i = 0; i < width * height; i++) {
                samples[i] = bounded((int) (gain * (float) samples[i] + offset), 0, BRIGHTEST);
            }
        }

        float meanSquareTo(Plane other) {
            int count = width * height;
            float sum = 0f;
            for (int i = 0; i < count; i++) {
                float difference = (float) (samples[i] - other.samples[i]);
                sum += difference * difference;
            }
            return sum / (float) count;
        }
    }

    private static final class Picture {
        final Plane[] planes;

        Picture() {
            planes = new Plane[PLANES];
            for (int plane = 0; plane < PLANES; plane++) {
                planes[plane] = new Plane(squareSide(plane));
            }
        }

        void clear(int w, int h) {
            for (int plane = 0; plane < PLANES; plane++) {
                planes[plane].clear(w, h);
            }
        }

        void copyFrom(Picture other) {
            for (int plane = 0; plane < PLANES; plane++) {
                planes[plane].copyFrom(other.planes[plane]);
            }
        }

        int mixed(int x, int y) {
            float bright = (float) planes[0].nearest(x, y);
            float p = (float) (planes[1].nearest(x / 2, y / 2) - GREY);
            float q = (float) (planes[2].nearest(x / 2, y / 2) - GREY);
            int red = tone(bright + 1.402f * q);
            int green = tone(bright - 0.344136f * p - 0.714136f * q);
            int blue = tone(bright + 1.772f * p);
            return 65536 * red + 256 * green + blue;
        }

        private static int tone(float v) {
            return bounded((int) (v + 0.5f), 0, BRIGHTEST);
        }
    }

    /** All pictures there are: they change places, so that none is ever made anew. */
    private static final class Shelf {
        Picture older = new Picture();
        Picture newer = new Picture();
        Picture open = new Picture();
        Picture shown = new Picture();
        final Plane kept = new Plane(squareSide(0));
        boolean hasKept;
        // The new reference came of a picture and was not shown yet.
        boolean newerWaits;
        int doneCount;
        int shownCount;

        void clear(int w, int h) {
            older.clear(w, h);
            newer.clear(w, h);
            open.clear(w, h);
            shown.clear(w, h);
            kept.clear(w, h);
            hasKept = false;
            newerWaits = false;
            doneCount = 0;
            shownCount = 0;
        }

        void showOpen() {
            Picture free = shown;
            shown = open;
            open = free;
            shownCount++;
        }

        void showNewer() {
            if (newerWaits) {
                // A copy, since light() changes what is shown and not the reference.
                shown.copyFrom(newer);
                shownCount++;
                newerWaits = false;
            }
        }

        void turnOpenIntoReference() {
            showNewer();
            Picture free = older;
            older = newer;
            newer = open;
            open = free;
            newerWaits = true;
        }

        void keepShown() {
            kept.copyFrom(shown.planes[0]);
            hasKept = true;
        }
    }

    /** What was told for the square that is to come. */
    private static final class Coming {
        final int[] levels = new int[BLOCKS * PLACES];
        boolean forItself;
        int directions;
        boolean anything;

        void clear() {
            Arrays.fill(levels, 0);
            forItself = false;
            directions = NOWHERE;
            anything = false;
        }
    }

    /** The vectors: forward x, y, backward x, y. */
    private static final class Motion {
        final int[] parts = new int[4];
        private final int[] most = new int[2];
        private boolean whole;

        void prepare(int forward, int backward, boolean whole) {
            most[0] = 16 * forward;
            most[1] = 16 * backward;
            this.whole = whole;
            rest();
        }

        void rest() {
            Arrays.fill(parts, 0);
        }

        boolean reaches(int direction, int d) {
            return isWithin(d, -most[direction], most[direction]);
        }

        void move(int direction, int dx, int dy) {
            int x = 2 * direction;
            parts[x] = wrapped(parts[x] + dx, most[direction]);
            parts[x + 1] = wrapped(parts[x + 1] + dy, most[direction]);
        }

        int used(int plane, int part) {
            int v = whole ? 2 * parts[part] : parts[part];
            return plane == 0 ? v : v / 2;
        }

        private static int wrapped(int v, int most) {
            if (v < -most) {
                return v + 2 * most;
            }
            return v >= most ? v - 2 * most : v;
        }
    }

    /** Turns the levels of one block at a time into samples, or into differences from what is fetched. */
    private static final class Blocks {
        // Eight times the row, and the column, of each place of the zigzag.
        private static final int[] ZIGZAG = {
            0, 1, 8, 16, 9, 2, 3, 10,
            17, 24, 32, 25, 18, 11, 4, 5,
            12, 19, 26, 33, 40, 48, 41, 34,
            27, 20, 13, 6, 7, 14, 21, 28,
            35, 42, 49, 56, 57, 50, 43, 36,
            29, 22, 15, 23, 30, 37, 44, 51,
            58, 59, 52, 45, 38, 31, 39, 46,
            53, 60, 61, 54, 47, 55, 62, 63
        };
        private static final int[] WAVE = {
            1024, 1004, 946, 851, 724, 569, 392, 200,
            0, -200, -392, -569, -724, -851, -946, -1004,
            -1024, -1004, -946, -851, -724, -569, -392, -200,
            0, 200, 392, 569, 724, 851, 946, 1004
        };
        private static final int FIRST_PAST = 1024;
        private static final int MOST_PAST = 2040;

        final int[][] matrices = new int[2][PLACES];
        final int[] pasts = new int[PLANES];
        final int[] turned = new int[PLACES];
        int factor;
        private final int[] coefficients = new int[PLACES];
        private final int[] halfTurned = new int[PLACES];

        void clear() {
            Arrays.fill(matrices[0], 16);
            Arrays.fill(matrices[1], 16);
            matrices[0][0] = 8;
            prepare();
        }

        void prepare() {
            factor = 1;
            forgetPasts();
        }

        void forgetPasts() {
            Arrays.fill(pasts, FIRST_PAST);
        }

        void turnForItself(int[] levels, int block) {
            int start = block * PLACES;
            int plane = planeOf(block);
            pasts[plane] = bounded(pasts[plane] + 8 * levels[start], 0, MOST_PAST);
            coefficients[0] = pasts[plane];
            for (int i = 1; i < PLACES; i++) {
                coefficients[ZIGZAG[i]] = scaled(2 * levels[start + i], matrices[0][ZIGZAG[i]]);
            }
            turn();
        }

        void turnDifference(int[] levels, int block) {
            int start = block * PLACES;
            for (int i = 0; i < PLACES; i++) {
                int v = levels[start + i];
                coefficients[ZIGZAG[i]] = scaled(2 * v + Integer.signum(v), matrices[1][ZIGZAG[i]]);
            }
            turn();
        }

        private int scaled(int doubled, int number) {
            int v = doubled * factor * number / 16;
            if ((v & 1) == 0) {
                v -= Integer.signum(v);
            }
            return bounded(v, -2048, 2047);
        }

        private void turn() {
            for (int i = 0; i < PLACES; i++) {
                halfTurned[i] = (alongRow(i / EDGE, i % EDGE) + 128) >> 8;
            }
            for (int i = 0; i < PLACES; i++) {
                turned[i] = (alongColumn(i / EDGE, i % EDGE) + 8192) >> 14;
            }
        }

        private int alongRow(int v, int x) {
            int sum = 0;
            for (int u = 0; u < EDGE; u++) {
                sum += wave(u, x) * coefficients[v * EDGE + u];
            }
            return sum;
        }

        private int alongColumn(int y, int x) {
            int sum = 0;
            for (int v = 0; v < EDGE; v++) {
                sum += wave(v, y) * halfTurned[v * EDGE + x];
            }
            return sum;
        }

        private static int wave(int u, int x) {
            return u == 0 ? 724 : WAVE[(2 * x + 1) * u & 31];
        }
    }
}
