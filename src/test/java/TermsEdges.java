import java.util.ArrayList;
import java.util.Arrays;
import java.util.List;

/** What it is, and Terms: what their sentences say of all pictures, beside the edges that other classes look at. */
final class TermsEdges {
    private static final String[] FIRST = Stages.flat(10, 10, 10, 10, 1, 2);
    private static final String[] SECOND = Stages.with(FIRST, Stages.flat(20, 20, 20, 20, 3, 4));
    private static final String[] END = {"square = 1", "done", "last"};

    private TermsEdges() {
    }

    static void all() {
        whatItIs();
        calls512OfOneMethod();
        termsSquaresAndPlanes();
        termsBlocksOfTheLastSquare();
        termsKinds();
        termsZigzagPlaces();
        termsNumbersOfTheRow();
        termsVectorsGrow();
        termsShownWithKindThree();
        termsMethodsThrow();
        termsNamedFirst();
        termsThrowingChangesNothing();
    }

    private static void whatItIs() {
        new Edge(Document.WHAT_IT_IS, "Puts moving pictures together from what a reader of their stream tells: pictures"
            + " for themselves, pictures told by one before, and pictures told by one before and one behind; coefficients"
            + " scaled and turned into samples, blocks fetched by vectors of half samples, pictures shown in their order,"
            + " with colours, light and errors reckoned in floats")
            .taken("begin 1 1 1 false", "scale 2", "itself", "level 0 0 -28", "level 0 1 8", "level 4 0 10",
                "level 5 0 20", "square = 1", "done = 0",
                "begin 2 1 1 false", "vector 0 2 0", "level 1 0 5", "square = 1", "done = 1",
                "sample 0 0 0 = 105", "sample 0 7 0 = 95", "sample 0 8 0 = 100", "colour 0 0 = 8738683", "keep",
                // Fetched half a sample to the right from the one before, and together with the one behind.
                "begin 3 1 1 false", "vector 0 1 0", "vector 1 0 0", "square = 1", "done = 2",
                "sample 0 0 0 = 105", "sample 0 7 0 = 99", "sample 0 8 0 = 101", "error = 0.90625",
                "light 0.5 30", "sample 0 0 0 = 82", "error = 403.875",
                "last = 3", "sample 0 6 0 = 95", "sample 0 7 0 = 100", "sample 0 8 0 = 101");
    }

    /** With the last one, and those of the stage, there are 512 calls. */
    private static void often(Edge edge, String[] stage, String call, String last) {
        String[] calls = new String[512 - stage.length];
        Arrays.fill(calls, call);
        calls[calls.length - 1] = last;
        edge.at(stage).taken(calls);
    }

    private static void calls512OfOneMethod() {
        Edge edge = new Edge(Document.WHAT_IT_IS, "at most 512 calls after it has been made", "nearly all of one method");
        String[] shown = Stages.with(FIRST, "last", "keep");
        String[] open = {"begin 3 1 1 false"};
        often(edge, Stages.NEW, "size 4 3", "told 1 = 0");
        often(edge, Stages.NEW, "matrix 1 63 9", "matrix 1 63 9 = 9");
        often(edge, Stages.NEW, "last = 0", "last = 0");
        often(edge, Stages.NEW, "told 0 = 0", "told 8 = 1024");
        often(edge, shown, "sample 0 15 15 = 10", "sample 2 7 7 = 2");
        often(edge, shown, "colour 15 15 = 36864", "colour 0 0 = 36864");
        often(edge, shown, "light 1 1", "sample 0 0 0 = 255");
        often(edge, shown, "keep", "error = 0.0");
        often(edge, shown, "error = 0.0", "error = 0.0");
        often(edge, open, "scale 31", "scale 1");
        often(edge, open, "itself", "square = 1");
        often(edge, open, "level 5 63 -255", "level 5 63 255");
        // 510 times 7 is 18 less than 111 times 32.
        often(edge, open, "vector 0 7 0", "told 4 = -14");
    }

    private static void termsSquaresAndPlanes() {
        Edge edge = new Edge(Document.TERMS, "A PICTURE has W by H SQUARES (W 1 .. 4, H 1 .. 3), in three PLANES of"
            + " samples 0 .. 255: plane 0 has 16 W by 16 H of them, planes 1 and 2 have 8 W by 8 H");
        for (int w = 1; w <= 4; w++) {
            for (int h = 1; h <= 3; h++) {
                String right = " " + (16 * w - 1) + " ";
                String halfRight = " " + (8 * w - 1) + " ";
                edge.at(lastSquare(w, h, 0, 255, 255, 0, 255, 0)).taken(
                    "sample 0" + right + (16 * h - 1) + " = 0", "sample 0" + right + (16 * h - 16) + " = 255",
                    "sample 1" + halfRight + (8 * h - 1) + " = 255", "sample 2" + halfRight + (8 * h - 1) + " = 0",
                    "sample 0 " + 16 * w + " 0 ! index", "sample 0 0 " + 16 * h + " ! index",
                    "sample 1 " + 8 * w + " 0 ! index", "sample 1 0 " + 8 * h + " ! index",
                    "sample 2 " + 8 * w + " 0 ! index", "sample 2 0 " + 8 * h + " ! index", "sample 3 0 0 ! index");
            }
        }
    }

    private static void termsBlocksOfTheLastSquare() {
        Edge edge = new Edge(Document.TERMS, "It has six BLOCKS of 8 by 8 samples", "in each size");
        for (int w = 1; w <= 4; w++) {
            for (int h = 1; h <= 3; h++) {
                int x = 16 * w - 16;
                int y = 16 * h - 16;
                edge.at(lastSquare(w, h, 10, 20, 30, 40, 50, 60)).taken(
                    "sample 0 " + x + " " + y + " = 10", "sample 0 " + (x + 7) + " " + (y + 7) + " = 10",
                    "sample 0 " + (x + 8) + " " + y + " = 20", "sample 0 " + (x + 15) + " " + (y + 7) + " = 20",
                    "sample 0 " + x + " " + (y + 8) + " = 30", "sample 0 " + (x + 7) + " " + (y + 15) + " = 30",
                    "sample 0 " + (x + 8) + " " + (y + 8) + " = 40", "sample 0 " + (x + 15) + " " + (y + 15) + " = 40",
                    "sample 1 " + x / 2 + " " + y / 2 + " = 50", "sample 1 " + (x / 2 + 7) + " " + (y / 2 + 7) + " = 50",
                    "sample 2 " + x / 2 + " " + y / 2 + " = 60", "sample 2 " + (x / 2 + 7) + " " + (y / 2 + 7) + " = 60");
            }
        }
    }

    /** A shown picture whose last square has flat blocks with these six samples. */
    private static String[] lastSquare(int w, int h, int... samples) {
        String[] before = {"size " + w + " " + h, "begin 2 1 1 false"};
        if (w * h > 1) {
            before = Stages.with(before, "leave " + (w * h - 1));
        }
        return Stages.with(before, Stages.with(Stages.flatSquare(128, 128, 128, samples), "done = 0", "last = 1"));
    }

    private static void termsKinds() {
        new Edge(Document.TERMS, "KINDS: 1 for itself, 2 told by the new reference, 3 told by the old one (forward) and"
            + " the new one (backward)")
            .at(SECOND)
            .taken("begin 1 1 1 false", "vector 0 0 0 ! state", "itself", "square", "done", "last", "sample 0 0 0 = 128")
            .taken("begin 2 1 1 false", "vector 0 0 0", "square", "done", "last", "sample 0 0 0 = 20", "sample 1 0 0 = 3")
            .taken("begin 3 1 1 false", "vector 0 0 0", "square", "done", "sample 0 0 0 = 10", "sample 2 0 0 = 2")
            .taken("begin 3 1 1 false", "vector 1 0 0", "square", "done", "sample 0 0 0 = 20", "sample 2 0 0 = 4");
    }

    /** Rows and columns of the places, as the sentence has them. */
    private static List<int[]> zigzag() {
        List<int[]> places = new ArrayList<>();
        for (int sum = 0; sum <= 14; sum++) {
            boolean downward = sum % 2 == 1;
            for (int step = 0; step < 8; step++) {
                int row = downward ? step : 7 - step;
                if (sum - row >= 0 && sum - row < 8) {
                    places.add(new int[] {row, sum - row});
                }
            }
        }
        return places;
    }

    private static void termsZigzagPlaces() {
        Edge edge = new Edge(Document.TERMS, "LEVELS: ... at places 0 .. 63 of the ZIGZAG: it begins at row 0, column 0,"
            + " goes on through those with row + column = 1, 2, .., 14, and through each of these by rows");
        List<int[]> places = zigzag();
        Script.due("places of the zigzag", places.size(), 64);
        for (int i = 0; i < 64; i++) {
            // With 32 at its place of the matrix, the level 64 makes 258, made 257, in a square that is fetched, and
            // 256, made 255, in one for itself, whose place 0 has no level of this sort.
            int at = 8 * places.get(i)[0] + places.get(i)[1];
            String level = "level " + i % 6 + " " + i + " 64";
            edge.at(Stages.with(new String[] {"matrix 1 " + at + " 32", "begin 2 1 1 false", level}, END))
                .taken(firstRowAndColumn(i % 6, 128, with(at, 257)));
            if (i > 0) {
                edge.at(Stages.with(new String[] {"matrix 0 " + at + " 32", "begin 1 1 1 false", "itself", level}, END))
                    .taken(firstRowAndColumn(i % 6, 0, with(at, 255, 0, 1024)));
            }
        }
    }

    /** Coefficients of a block, all 0 but for some that are told by their places in rows of 8. */
    private static long[][] with(int... placesAndCoefficients) {
        long[][] coefficients = new long[8][8];
        for (int i = 0; i < placesAndCoefficients.length; i += 2) {
            coefficients[placesAndCoefficients[i] / 8][placesAndCoefficients[i] % 8] = placesAndCoefficients[i + 1];
        }
        return coefficients;
    }

    /** What is due of a block of these coefficients where so much is fetched. */
    private static String[] firstRowAndColumn(int block, int fetched, long[][] coefficients) {
        int[][] f = Model.samples(coefficients);
        int plane = block < 4 ? 0 : block - 3;
        int x = plane == 0 ? block % 2 * 8 : 0;
        int y = plane == 0 ? block / 2 * 8 : 0;
        String[] due = new String[16];
        for (int k = 0; k < 8; k++) {
            due[k] = "sample " + plane + " " + (x + k) + " " + y + " = " + (fetched + f[0][k]);
            due[8 + k] = "sample " + plane + " " + x + " " + (y + k) + " = " + (fetched + f[k][0]);
        }
        return due;
    }

    private static void termsNumbersOfTheRow() {
        Edge edge = new Edge(Document.TERMS, "SAMPLES of a block from its coefficients F(v, u): t(v, x) is the sum over u"
            + " of c(u, x) F(v, u), ... f(y, x) the sum over v of c(v, y) t(v, x), ... c(0, x) is 724; c(u, x) is the"
            + " number of this row that (2 x + 1) u has as its place, which goes round by 32: place p of 0 .. 8:"
            + " 1024 1004 946 851 724 569 392 200 0; 9 .. 16: less than 0, as 16 - p; 17 .. 31: as 32 - p");
        for (int u = 1; u < 8; u++) {
            for (int x = 0; x < 8; x++) {
                numberOfTheRow(edge, u, x, true);
                numberOfTheRow(edge, u, x, false);
            }
        }
    }

    /**
     * With large coefficients in all rows of column u, and in column 0 those that leave little of them at column x, one
     * more or less in c(u, x) alone changes the sample there by one at least; or so with rows for columns.
     */
    private static void numberOfTheRow(Edge edge, int u, int x, boolean acrossRows) {
        int large = 22;
        // In a square that is fetched, with the scale 31, the level n makes 31 times 2 n + 1, or 2 n - 1 below 0.
        long due = -(2 * large + 1) * Model.cosine(u, x) / 724;
        int against = (int) (due < 0 ? (due - 1) / 2 : due / 2);
        long[][] coefficients = new long[8][8];
        List<String> calls = new ArrayList<>(List.of("begin 2 1 1 false", "scale 31"));
        List<int[]> places = zigzag();
        for (int i = 0; i < 64; i++) {
            int row = places.get(i)[0];
            int column = places.get(i)[1];
            int across = acrossRows ? column : row;
            int level = across == u ? large : across == 0 ? against : 0;
            if (level != 0) {
                calls.add("level 0 " + i + " " + level);
                coefficients[row][column] = 31 * (2 * level + Integer.signum(level));
            }
        }
        int f = Model.samples(coefficients)[acrossRows ? 0 : x][acrossRows ? x : 0];
        Script.due("c(" + u + ", " + x + ") is seen", -128 < f && f < 127, true);
        edge.at(Stages.with(calls.toArray(new String[0]), END))
            .taken("sample 0 " + (acrossRows ? x + " 0" : "0 " + x) + " = " + (128 + f));
    }

    private static void termsVectorsGrow() {
        new Edge(Document.TERMS, "0 at first. A vector told by d becomes itself and d, plus or minus 32 r, such that it is"
            + " -16 r .. 16 r - 1 (r the direction's REACH)")
            .at(new String[] {"begin 3 2 3 false"})
            .taken("told 4 = 0", "told 5 = 0", "told 6 = 0", "told 7 = 0")
            .taken("vector 0 20 -19", "told 4 = 20", "told 5 = -19", "vector 0 5 -6", "told 4 = 25", "told 5 = -25",
                "vector 0 20 -19", "told 4 = -19", "told 5 = 20", "told 6 = 0", "told 7 = 0")
            .taken("vector 1 20 -19", "told 6 = 20", "told 7 = -19", "vector 1 20 -19", "told 6 = 40", "told 7 = -38",
                "vector 1 20 -19", "told 6 = -36", "told 7 = 39", "told 4 = 0", "told 5 = 0")
            // From square to square, too.
            .at(new String[] {"size 2 1", "begin 3 2 3 false", "vector 0 20 -20", "vector 1 30 -30", "square = 1"})
            .taken("told 4 = 20", "told 5 = -20", "vector 0 20 -20", "told 4 = -24", "told 5 = 24", "vector 1 30 -30",
                "told 6 = -36", "told 7 = 36", "square = 2");
    }

    private static void termsShownWithKindThree() {
        new Edge(Document.TERMS, "SHOWN is, when a picture of the kind 3 is done, that")
            .at(Stages.with(SECOND, "begin 3 1 1 false", "vector 0 0 0", "vector 1 0 0", "level 5 0 127", "square"))
            .taken("sample 0 0 0 = 10", "told 3 = 1", "done = 2", "told 3 = 2", "sample 0 0 0 = 15", "sample 1 7 7 = 2",
                "sample 2 0 0 = 35", "last = 3", "sample 0 0 0 = 20")
            .at(new String[] {"begin 3 1 1 false", "itself", "level 0 0 7", "square"})
            .refused("sample 0 0 0 ! state").taken("done = 1", "sample 0 0 0 = 135");
    }

    /** Each exception of each method once, with the calls that it stands between. */
    private static void termsMethodsThrow() {
        new Edge(Document.TERMS, "Methods throw what their comments name")
            .at(Stages.OPEN_2)
            .refused("size 5 1 ! argument", "matrix 2 0 1 ! argument", "begin 4 1 1 false ! argument",
                "begin 1 1 1 false ! state", "scale 32 ! argument", "vector 0 33 0 ! argument", "vector 1 0 0 ! state",
                "level 6 0 0 ! argument", "leave 2 ! argument", "done ! state", "last ! state", "sample 0 32 0 ! index",
                "colour 32 0 ! index", "light 1001 0 ! argument", "told 11 ! argument")
            .at(Stages.FULL_2).refused("itself ! state", "level 0 0 0 ! state", "square ! state", "leave 1 ! argument")
            .at(Stages.TOLD_2).refused("leave 1 ! state")
            .at(Stages.NEW)
            .refused("scale 1 ! state", "sample 0 0 0 ! state", "colour 0 0 ! state", "light 1 0 ! state", "keep ! state",
                "error ! state");
    }

    private static void termsNamedFirst() {
        new Edge(Document.TERMS, "the one named first when several would do", "in each method that names two")
            .at(Stages.NEW)
            .refused("scale 0 ! argument", "vector 2 0 0 ! argument", "level 6 0 0 ! argument", "leave 0 ! argument",
                "sample 3 0 0 ! state", "colour 16 0 ! state", "light 1001 0 ! argument")
            .at(Stages.FULL_1)
            .refused("begin 4 1 1 false ! argument", "vector 1 49 0 ! argument", "level 0 0 256 ! argument",
                "leave 1 ! argument")
            .at(Stages.TOLD_1).refused("vector 0 0 33 ! argument", "leave 2 ! argument", "leave 1 ! state");
    }

    private static void termsThrowingChangesNothing() {
        // What is right in each of these calls must not have been taken when they throw for the rest.
        new Edge(Document.TERMS, "a call that throws changes nothing", "nor does what is right in it")
            .at(Stages.ALL)
            .refused("size 3 4 ! argument", "size 5 2 ! argument", "matrix 0 9 256 ! argument", "matrix 1 64 9 ! argument",
                "begin 4 9 9 true ! argument", "begin 3 17 9 true ! argument", "begin 3 9 17 true ! argument",
                "level 3 64 9 ! argument", "level 3 9 256 ! argument", "light 2 100001 ! argument",
                "light 1001 5 ! argument")
            .at(Stages.ANY_OPEN).refused("begin 3 9 9 true ! state", "begin 2 9 9 false ! state")
            .at(Stages.OPEN_2, Stages.TOLD_2, Stages.OPEN_3, Stages.TOLD_3)
            .refused("vector 0 5 33 ! argument", "vector 0 33 5 ! argument", "vector 0 -5 -33 ! argument",
                "vector 1 5 49 ! argument", "vector 1 -49 -5 ! argument", "vector 2 5 5 ! argument")
            .at(Stages.OPEN_1, Stages.TOLD_1, Stages.FULL_1, Stages.FULL_2, Stages.FULL_3, Stages.CLOSED)
            .refused("vector 0 5 -5 ! state", "vector 1 5 -5 ! state");
    }
}
