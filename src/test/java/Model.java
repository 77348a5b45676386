/**
 * The document once more, written for itself and as near to its words as can be, to be compared with the
 * program call by call. It shares no code with it: pictures are rows of rows, tables are reckoned from
 * their rules, and each case of a rule stands by itself.
 */
final class Model {
    private static final String ARGUMENT = "throws argument";
    private static final String STATE = "throws state";
    private static final String INDEX = "throws index";

    private int w;
    private int h;
    private int[][][] oldReference;
    private int[][][] newReference;
    private int[][][] picture;
    private int[][][] shown;
    private int[][] kept;
    private boolean newCameOfPicture;
    private boolean newWasShown;
    private int[][] matrix;
    private int kind;
    private int there;
    private int doneCount;
    private int shownCount;
    private int[] reach;
    private boolean whole;
    private int scale;
    private int[] past;
    private int[][] vector;
    private int[][] level;
    private boolean itself;
    private boolean[] toldDirection;
    private boolean anythingTold;
    private boolean squareBeforeIsItself;
    private boolean[] squareBeforeDirection;

    Model() {
        anew(1, 1);
    }

    String answer(String call) {
        String[] t = call.split(" +");
        switch (t[0]) {
            case "size": return size(n(t, 1), n(t, 2));
            case "matrix": return matrix(n(t, 1), n(t, 2), n(t, 3));
            case "begin": return begin(n(t, 1), n(t, 2), n(t, 3), t[4].equals("true"));
            case "scale": return scale(n(t, 1));
            case "itself": return itself();
            case "vector": return vector(n(t, 1), n(t, 2), n(t, 3));
            case "level": return level(n(t, 1), n(t, 2), n(t, 3));
            case "square": return square();
            case "leave": return leave(n(t, 1));
            case "done": return done();
            case "last": return last();
            case "sample": return sample(n(t, 1), n(t, 2), n(t, 3));
            case "colour": return colour(n(t, 1), n(t, 2));
            case "light": return light(Float.parseFloat(t[1]), Float.parseFloat(t[2]));
            case "keep": return keep();
            case "error": return error();
            case "told": return told(n(t, 1));
            default: throw new Error("no such call: " + call);
        }
    }

    private static int n(String[] words, int i) {
        return Calls.n(words, i);
    }

    private void anew(int newW, int newH) {
        w = newW;
        h = newH;
        oldReference = grey();
        newReference = grey();
        picture = null;
        shown = null;
        kept = null;
        newCameOfPicture = false;
        newWasShown = false;
        matrix = new int[2][64];
        for (int i = 0; i < 64; i++) {
            matrix[0][i] = i == 0 ? 8 : 16;
            matrix[1][i] = 16;
        }
        kind = 0;
        there = 0;
        doneCount = 0;
        shownCount = 0;
        reach = new int[] {1, 1};
        whole = false;
        scale = 1;
        past = new int[] {1024, 1024, 1024};
        vector = new int[2][2];
        nothingTold();
    }

    private int[][][] grey() {
        int[][][] planes = {new int[16 * h][16 * w], new int[8 * h][8 * w], new int[8 * h][8 * w]};
        for (int[][] plane : planes) {
            for (int[] row : plane) {
                java.util.Arrays.fill(row, 128);
            }
        }
        return planes;
    }

    private static int[][][] copy(int[][][] planes) {
        return new int[][][] {copy(planes[0]), copy(planes[1]), copy(planes[2])};
    }

    private static int[][] copy(int[][] plane) {
        int[][] rows = new int[plane.length][];
        for (int y = 0; y < plane.length; y++) {
            rows[y] = plane[y].clone();
        }
        return rows;
    }

    private void nothingTold() {
        level = new int[6][64];
        itself = false;
        toldDirection = new boolean[2];
        anythingTold = false;
    }

    private static boolean in(long v, long least, long most) {
        return least <= v && v <= most;
    }

    private static int clamp(long v, int least, int most) {
        return (int) Math.max(least, Math.min(most, v));
    }

    private boolean allThere() {
        return there == w * h;
    }

    private String size(int newW, int newH) {
        if (!in(newW, 1, 4) || !in(newH, 1, 3)) {
            return ARGUMENT;
        }
        anew(newW, newH);
        return "";
    }

    private String matrix(int which, int i, int v) {
        if (!in(which, 0, 1) || !in(i, 0, 63) || !in(v, 1, 255)) {
            return ARGUMENT;
        }
        int was = matrix[which][i];
        matrix[which][i] = v;
        return "" + was;
    }

    private String begin(int newKind, int forward, int backward, boolean newWhole) {
        if (!in(newKind, 1, 3) || !in(forward, 1, 16) || !in(backward, 1, 16)) {
            return ARGUMENT;
        }
        if (kind != 0) {
            return STATE;
        }
        kind = newKind;
        there = 0;
        picture = grey();
        reach = new int[] {forward, backward};
        whole = newWhole;
        scale = 1;
        past = new int[] {1024, 1024, 1024};
        vector = new int[2][2];
        nothingTold();
        return "";
    }

    private String scale(int q) {
        if (!in(q, 1, 31)) {
            return ARGUMENT;
        }
        if (kind == 0) {
            return STATE;
        }
        scale = q;
        return "";
    }

    private String itself() {
        if (kind == 0 || allThere() || toldDirection[0] || toldDirection[1]) {
            return STATE;
        }
        itself = true;
        anythingTold = true;
        return "";
    }

    private String vector(int direction, int dx, int dy) {
        if (!in(direction, 0, 1)) {
            return ARGUMENT;
        }
        int r = reach[direction];
        if (!in(dx, -16 * r, 16 * r) || !in(dy, -16 * r, 16 * r)) {
            return ARGUMENT;
        }
        if (kind == 0 || allThere() || itself || kind == 1 || kind == 2 && direction == 1) {
            return STATE;
        }
        vector[direction][0] = Math.floorMod(vector[direction][0] + dx + 16 * r, 32 * r) - 16 * r;
        vector[direction][1] = Math.floorMod(vector[direction][1] + dy + 16 * r, 32 * r) - 16 * r;
        toldDirection[direction] = true;
        anythingTold = true;
        return "";
    }

    private String level(int block, int i, int v) {
        if (!in(block, 0, 5) || !in(i, 0, 63) || !in(v, -255, 255)) {
            return ARGUMENT;
        }
        if (kind == 0 || allThere()) {
            return STATE;
        }
        level[block][i] = v;
        anythingTold = true;
        return "";
    }

    private String square() {
        if (kind == 0 || allThere() || kind == 1 && !itself) {
            return STATE;
        }
        if (kind == 3 && !itself && !toldDirection[0] && !toldDirection[1]) {
            return STATE;
        }
        if (itself || kind == 2 && !toldDirection[0]) {
            vector = new int[2][2];
        }
        boolean[] directions = kind == 2 ? new boolean[] {true, false} : toldDirection;
        for (int block = 0; block < 6; block++) {
            make(block, directions, samples(coefficients(block)));
        }
        if (!itself) {
            past = new int[] {1024, 1024, 1024};
        }
        squareBeforeIsItself = itself;
        squareBeforeDirection = directions;
        nothingTold();
        there++;
        return "" + there;
    }

    private void make(int block, boolean[] directions, int[][] f) {
        int plane = block < 4 ? 0 : block == 4 ? 1 : 2;
        int side = plane == 0 ? 16 : 8;
        int row = there / w * side + (block == 2 || block == 3 ? 8 : 0);
        int column = there % w * side + (block == 1 || block == 3 ? 8 : 0);
        for (int y = 0; y < 8; y++) {
            for (int x = 0; x < 8; x++) {
                int more = itself ? 0 : fetched(plane, column + x, row + y, directions);
                picture[plane][row + y][column + x] = clamp((long) f[y][x] + more, 0, 255);
            }
        }
    }

    private long[][] coefficients(int block) {
        long[][] result = new long[8][8];
        int i = 0;
        for (int sum = 0; sum <= 14; sum++) {
            for (int step = 0; step <= sum; step++) {
                int row = sum % 2 == 1 ? step : sum - step;
                int column = sum - row;
                if (row < 8 && column < 8) {
                    result[row][column] = coefficient(block, i, row, column);
                    i++;
                }
            }
        }
        return result;
    }

    private long coefficient(int block, int i, int row, int column) {
        int l = level[block][i];
        if (itself && i == 0) {
            int plane = block < 4 ? 0 : block - 3;
            past[plane] = clamp(past[plane] + 8 * l, 0, 2040);
            return past[plane];
        }
        long twice = 2L * l;
        if (!itself) {
            twice = l > 0 ? twice + 1 : l < 0 ? twice - 1 : 0;
        }
        long product = twice * scale * matrix[itself ? 0 : 1][row * 8 + column];
        long size = Math.abs(product) / 16;
        if (size > 0 && size % 2 == 0) {
            size--;
        }
        return clamp(product < 0 ? -size : size, -2048, 2047);
    }

    static long cosine(int u, int x) {
        return u == 0 ? 724 : place((2 * x + 1) * u % 32);
    }

    private static long place(int p) {
        if (p <= 8) {
            return new long[] {1024, 1004, 946, 851, 724, 569, 392, 200, 0}[p];
        }
        return p <= 16 ? -place(16 - p) : place(32 - p);
    }

    /** The samples f of a block from its coefficients. */
    static int[][] samples(long[][] big) {
        long[][] t = new long[8][8];
        int[][] f = new int[8][8];
        for (int v = 0; v < 8; v++) {
            for (int x = 0; x < 8; x++) {
                long sum = 128;
                for (int u = 0; u < 8; u++) {
                    sum += cosine(u, x) * big[v][u];
                }
                t[v][x] = Math.floorDiv(sum, 256L);
            }
        }
        for (int y = 0; y < 8; y++) {
            for (int x = 0; x < 8; x++) {
                long sum = 8192;
                for (int v = 0; v < 8; v++) {
                    sum += cosine(v, y) * t[v][x];
                }
                f[y][x] = (int) Math.floorDiv(sum, 16384L);
            }
        }
        return f;
    }

    private int fetched(int plane, int x, int y, boolean[] directions) {
        int[][] forwardFrom = (kind == 2 ? newReference : oldReference)[plane];
        if (directions[0] && directions[1]) {
            int both = fetchedOne(forwardFrom, plane, x, y, vector[0])
                    + fetchedOne(newReference[plane], plane, x, y, vector[1]);
            return (both + 1) / 2;
        }
        return directions[0] ? fetchedOne(forwardFrom, plane, x, y, vector[0])
                : fetchedOne(newReference[plane], plane, x, y, vector[1]);
    }

    private int fetchedOne(int[][] from, int plane, int x, int y, int[] told) {
        int dx = whole ? 2 * told[0] : told[0];
        int dy = whole ? 2 * told[1] : told[1];
        if (plane != 0) {
            dx = dx / 2;
            dy = dy / 2;
        }
        int left = x + Math.floorDiv(dx, 2);
        int top = y + Math.floorDiv(dy, 2);
        boolean oddX = dx % 2 != 0;
        boolean oddY = dy % 2 != 0;
        if (oddX && oddY) {
            return (near(from, left, top) + near(from, left + 1, top)
                    + near(from, left, top + 1) + near(from, left + 1, top + 1) + 2) / 4;
        }
        if (oddX) {
            return (near(from, left, top) + near(from, left + 1, top) + 1) / 2;
        }
        return oddY ? (near(from, left, top) + near(from, left, top + 1) + 1) / 2 : near(from, left, top);
    }

    private static int near(int[][] from, int x, int y) {
        return from[clamp(y, 0, from.length - 1)][clamp(x, 0, from[0].length - 1)];
    }

    private String leave(int n) {
        if (!in(n, 1, kind == 0 ? 0 : w * h - there)) {
            return ARGUMENT;
        }
        if (kind == 0 || kind == 1 || anythingTold || kind == 3 && (there == 0 || squareBeforeIsItself)) {
            return STATE;
        }
        if (kind == 2) {
            vector = new int[2][2];
            squareBeforeDirection = new boolean[] {true, false};
        }
        for (int i = 0; i < n; i++) {
            for (int block = 0; block < 6; block++) {
                make(block, squareBeforeDirection, new int[8][8]);
            }
            there++;
        }
        squareBeforeIsItself = false;
        past = new int[] {1024, 1024, 1024};
        return "" + there;
    }

    private String done() {
        if (kind == 0 || !allThere()) {
            return STATE;
        }
        if (kind == 3) {
            shown = copy(picture);
            shownCount++;
        } else {
            showNew();
            oldReference = newReference;
            newReference = picture;
            newCameOfPicture = true;
            newWasShown = false;
        }
        doneCount++;
        kind = 0;
        there = 0;
        return "" + shownCount;
    }

    private void showNew() {
        if (newCameOfPicture && !newWasShown) {
            shown = copy(newReference);
            shownCount++;
            newWasShown = true;
        }
    }

    private String last() {
        if (kind != 0) {
            return STATE;
        }
        showNew();
        return "" + shownCount;
    }

    private String sample(int plane, int x, int y) {
        if (shown == null) {
            return STATE;
        }
        if (!in(plane, 0, 2) || !in(y, 0, shown[plane].length - 1) || !in(x, 0, shown[plane][0].length - 1)) {
            return INDEX;
        }
        return "" + shown[plane][y][x];
    }

    private String colour(int x, int y) {
        if (shown == null) {
            return STATE;
        }
        if (!in(y, 0, 16 * h - 1) || !in(x, 0, 16 * w - 1)) {
            return INDEX;
        }
        float bright = shown[0][y][x];
        float p = shown[1][y / 2][x / 2] - 128f;
        float q = shown[2][y / 2][x / 2] - 128f;
        float red = bright + 1.402f * q;
        float green = bright - 0.344136f * p;
        green = green - 0.714136f * q;
        float blue = bright + 1.772f * p;
        return "" + (65536 * cut(red + 0.5f) + 256 * cut(green + 0.5f) + cut(blue + 0.5f));
    }

    private static int cut(float v) {
        return clamp((long) v, 0, 255);
    }

    private String light(float gain, float offset) {
        if (Float.isNaN(gain) || Float.isNaN(offset) || Math.abs(gain) > 1000 || Math.abs(offset) > 100000) {
            return ARGUMENT;
        }
        if (shown == null) {
            return STATE;
        }
        for (int[] row : shown[0]) {
            for (int x = 0; x < row.length; x++) {
                float product = gain * row[x];
                row[x] = cut(product + offset);
            }
        }
        return "";
    }

    private String keep() {
        if (shown == null) {
            return STATE;
        }
        kept = copy(shown[0]);
        return "";
    }

    private String error() {
        if (shown == null || kept == null) {
            return STATE;
        }
        float sum = 0;
        for (int y = 0; y < 16 * h; y++) {
            for (int x = 0; x < 16 * w; x++) {
                float difference = shown[0][y][x] - kept[y][x];
                sum = sum + difference * difference;
            }
        }
        return "" + (double) (sum / (float) (256 * w * h));
    }

    private String told(int what) {
        if (!in(what, 0, 10)) {
            return ARGUMENT;
        }
        int[] all = {
            kind, there, doneCount, shownCount,
            vector[0][0], vector[0][1], vector[1][0], vector[1][1],
            past[0], past[1], past[2]
        };
        return "" + all[what];
    }
}
