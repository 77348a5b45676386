/** Promises 9 and 10, square and leave, and how levels and vectors become samples. */
public final class SquareTest {
    // The places of the zigzag, by rows and columns of a block.
    private static final int[][] ZIGZAG = {
        {0, 1, 5, 6, 14, 15, 27, 28},
        {2, 4, 7, 13, 16, 26, 29, 42},
        {3, 8, 12, 17, 25, 30, 41, 43},
        {9, 11, 18, 24, 31, 40, 44, 53},
        {10, 19, 23, 32, 39, 45, 52, 54},
        {20, 22, 33, 38, 46, 51, 55, 60},
        {21, 34, 37, 47, 50, 56, 59, 61},
        {35, 36, 48, 49, 57, 58, 62, 63},
    };

    public static void main(String[] args) {
        squareNeedsEnough();
        squaresAndBlocksHaveTheirPlaces();
        pastsGrowAndRest();
        coefficientsAreScaled();
        differencesAreScaled();
        zigzag();
        wholeSamplesAndHalves();
        outsideStandsTheNearest();
        smallerPlanesHaveHalfTheVector();
        directionsAndReferences();
        leaveHasEdges();
        leaveWithKindTwo();
        leaveWithKindThree();
        Script.finish();
    }

    private static void squareNeedsEnough() {
        new Script("9 states").say(
            "square ! state", "size 2 1", "begin 1 1 1 false", "square ! state", "level 0 0 1", "square ! state",
            "itself", "square = 1", "square ! state", "itself", "square = 2", "square ! state", "done", "square ! state",
            "begin 2 1 1 false", "square = 1", "vector 0 1 1", "square = 2", "square ! state", "done",
            "begin 3 1 1 false", "square ! state", "level 0 0 1", "square ! state", "vector 1 0 0", "square = 1",
            "square ! state", "itself", "square = 2", "done");
        new Script("9 refused, levels stay").say(
            "begin 1 1 1 false", "level 0 0 10", "square ! state", "itself", "square = 1", "told 8 = 1104");
    }

    private static void squaresAndBlocksHaveTheirPlaces() {
        new Script("9 places").say("size 2 2", "begin 1 1 1 false")
            .flatSquare(128, 128, 128, 10, 11, 12, 13, 14, 15)
            .flatSquare(13, 14, 15, 20, 21, 22, 23, 24, 25)
            .flatSquare(23, 24, 25, 30, 31, 32, 33, 34, 35)
            .flatSquare(33, 34, 35, 40, 41, 42, 43, 44, 45)
            .say("done = 0", "last = 1",
                "sample 0 0 0 = 10", "sample 0 7 7 = 10", "sample 0 8 7 = 11", "sample 0 15 0 = 11",
                "sample 0 0 8 = 12", "sample 0 7 15 = 12", "sample 0 8 8 = 13", "sample 0 15 15 = 13",
                "sample 0 16 0 = 20", "sample 0 24 0 = 21", "sample 0 16 8 = 22", "sample 0 31 15 = 23",
                "sample 0 0 16 = 30", "sample 0 15 16 = 31", "sample 0 0 31 = 32", "sample 0 15 31 = 33",
                "sample 0 16 16 = 40", "sample 0 31 16 = 41", "sample 0 16 31 = 42", "sample 0 31 31 = 43",
                "sample 1 0 0 = 14", "sample 1 7 7 = 14", "sample 1 8 0 = 24", "sample 1 0 8 = 34", "sample 1 15 15 = 44",
                "sample 2 7 0 = 15", "sample 2 15 7 = 25", "sample 2 7 15 = 35", "sample 2 8 8 = 45");
    }

    private static void pastsGrowAndRest() {
        new Script("9 pasts of the blocks").say(
            "begin 1 1 1 false", "itself", "level 0 0 100", "level 1 0 100", "level 2 0 -255", "level 3 0 -1",
            "level 4 0 -128", "level 5 0 127", "square", "told 8 = 0", "told 9 = 0", "told 10 = 2040", "done", "last",
            "sample 0 0 0 = 228", "sample 0 8 0 = 255", "sample 0 0 8 = 0", "sample 0 8 8 = 0", "sample 1 0 0 = 0",
            "sample 2 0 0 = 255");
        // 2040 and not 2624 is what the third block comes from: 2040 - 80.
        new Script("9 pasts are held").say(
            "begin 1 1 1 false", "itself", "level 0 0 100", "level 1 0 100", "level 2 0 -10", "square",
            "told 8 = 1960", "done", "last", "sample 0 0 8 = 245");
        new Script("9 pasts go on, and rest").say(
            "size 4 1", "begin 2 1 1 false", "itself", "level 0 0 5", "level 4 0 6", "level 5 0 7", "square",
            "told 8 = 1064", "told 9 = 1072", "told 10 = 1080", "itself", "level 0 0 5", "square", "told 8 = 1104",
            "told 9 = 1072", "square", "told 8 = 1024", "told 9 = 1024", "told 10 = 1024", "itself", "level 0 0 1",
            "square", "told 8 = 1032", "done", "told 8 = 1032", "last", "sample 0 16 0 = 138", "sample 0 63 0 = 129");
        // The first number of matrix 0 and the scale do not touch the past.
        new Script("9 pasts are not scaled").say(
            "begin 1 1 1 false", "scale 31", "matrix 0 0 255", "itself", "level 0 0 4", "square", "told 8 = 1056");
    }

    private static void coefficientsAreScaled() {
        // -2 * 7 * 3 * 17 / 16 = -44.6, cut off -44, made odd -43; one or two more or less make 120 or 134.
        new Script("9 cut off, made odd").say(
            "size 2 1", "matrix 0 1 17", "begin 1 1 1 false", "scale 3", "itself", "level 0 1 -7", "square", "itself",
            "level 0 1 7", "square", "done", "last", "sample 0 0 0 = 121", "sample 0 16 0 = 135");
        new Script("9 held within bounds").say(
            "size 2 1", "matrix 0 1 255", "begin 1 1 1 false", "itself", "level 0 1 255", "square", "itself",
            "level 0 1 -255", "square", "done", "last", "sample 0 0 0 = 255", "sample 0 3 0 = 199", "sample 0 4 0 = 57",
            "sample 0 7 0 = 0", "sample 0 19 0 = 57", "sample 0 20 0 = 199");
        // -2048 itself: -2047 would make 147 at the row's end.
        new Script("9 the lowest coefficient").say(
            "matrix 0 63 255", "begin 1 1 1 false", "itself", "level 0 63 -255", "square", "done", "last",
            "sample 0 0 0 = 108", "sample 0 3 0 = 226", "sample 0 7 0 = 148");
    }

    private static void differencesAreScaled() {
        // (2 + 1) * 31 * 16 / 16 = 93, an eighth of it is 12.
        new Script("9 one more, one less").flat(100, 100, 100, 100, 100, 100).say(
            "begin 2 1 1 false", "scale 31", "level 0 0 1", "level 1 0 -1", "level 4 0 1", "square", "told 8 = 1024",
            "done", "last", "sample 0 0 0 = 112", "sample 0 8 0 = 88", "sample 0 0 8 = 100", "sample 1 0 0 = 112",
            "sample 2 0 0 = 100");
        new Script("9 matrix 1, not 0").flat(100, 100, 100, 100, 100, 100).say(
            "matrix 0 0 255", "matrix 1 0 31", "begin 2 1 1 false", "scale 16", "level 0 0 1", "square", "done", "last",
            "sample 0 0 0 = 112");
        new Script("9 sums are held").flat(250, 5, 250, 5, 250, 5).say(
            "begin 2 1 1 false", "scale 31", "level 0 0 1", "level 1 0 -1", "level 4 0 9", "level 5 0 -9", "square",
            "done", "last", "sample 0 0 0 = 255", "sample 0 8 0 = 0", "sample 0 0 8 = 250", "sample 1 0 0 = 255",
            "sample 2 0 0 = 0");
    }

    private static void zigzag() {
        for (int row = 0; row < 8; row++) {
            for (int column = 0; column < 8; column++) {
                zigzagPlace(ZIGZAG[row][column], 8 * row + column);
            }
        }
        cornersOf("9 row 0, column 2", 5, 170, 170, 170, 170, 145);
        cornersOf("9 row 2, column 0", 3, 170, 170, 170, 170, 86);
        cornersOf("9 row 1, column 1", 4, 189, 67, 67, 189, 138);
        cornersOf("9 row 7, column 0", 35, 137, 137, 119, 119, 84);
        cornersOf("9 row 0, column 7", 28, 137, 119, 137, 119, 103);
        cornersOf("9 row 7, column 7", 63, 130, 126, 126, 130, 163);
    }

    /** The number at that place alone can change what the level makes, in a square that is fetched. */
    private static void zigzagPlace(int i, int matrixPlace) {
        String name = "9 zigzag place " + i;
        Script.due(name, firstSample(i, matrixPlace) != firstSample(i, (matrixPlace + 1) % 64), true);
    }

    private static int firstSample(int i, int matrixPlace) {
        PictureDeck deck = new PictureDeck();
        deck.begin(2, 1, 1, false);
        deck.matrix(1, matrixPlace, 255);
        deck.level(0, i, 20);
        deck.square();
        deck.done();
        deck.last();
        return deck.sample(0, 0, 0);
    }

    /** The level 128 makes 256, made 255. */
    private static void cornersOf(String name, int i, int first, int right, int below, int across, int inside) {
        new Script(name).say(
            "begin 1 1 1 false", "itself", "level 0 " + i + " 128", "square", "done", "last", "sample 0 0 0 = " + first,
            "sample 0 7 0 = " + right, "sample 0 0 7 = " + below, "sample 0 7 7 = " + across,
            "sample 0 1 3 = " + inside);
    }

    private static Script fetched(String name, String vector, String... samples) {
        return new Script(name).flat(100, 121, 143, 167, 50, 60).say(
            "begin 2 16 1 false", "vector 0 " + vector, "square = 1", "done = 1", "last = 2").say(samples);
    }

    private static void wholeSamplesAndHalves() {
        fetched("9 not moved", "0 0", "sample 0 7 7 = 100", "sample 0 8 7 = 121", "sample 0 7 8 = 143",
            "sample 0 8 8 = 167", "sample 1 0 0 = 50", "sample 2 0 0 = 60");
        fetched("9 one to the right", "2 0", "sample 0 6 0 = 100", "sample 0 7 0 = 121", "sample 0 7 8 = 167");
        fetched("9 one down", "0 2", "sample 0 0 6 = 100", "sample 0 0 7 = 143", "sample 0 8 7 = 167");
        fetched("9 three to the left", "-6 0", "sample 0 10 0 = 100", "sample 0 11 0 = 121");
        fetched("9 half to the right", "1 0", "sample 0 6 0 = 100", "sample 0 7 0 = 111", "sample 0 8 0 = 121",
            "sample 0 7 15 = 155", "sample 0 15 0 = 121");
        fetched("9 half down", "0 1", "sample 0 0 6 = 100", "sample 0 0 7 = 122", "sample 0 0 8 = 143",
            "sample 0 15 7 = 144");
        fetched("9 half to the left", "-1 0", "sample 0 7 0 = 100", "sample 0 8 0 = 111", "sample 0 9 0 = 121");
        fetched("9 three halves to the left", "-3 0", "sample 0 8 0 = 100", "sample 0 9 0 = 111", "sample 0 10 0 = 121");
        // 100 + 121 + 143 + 167 + 2 = 533.
        fetched("9 four together", "1 1", "sample 0 7 7 = 133", "sample 0 6 7 = 122", "sample 0 7 6 = 111",
            "sample 0 6 6 = 100", "sample 0 8 8 = 167", "sample 0 8 7 = 144");
        fetched("9 four together, up and left", "-1 -3", "sample 0 8 9 = 133", "sample 0 8 8 = 111",
            "sample 0 7 9 = 122", "sample 0 0 0 = 100");
        fetched("9 half and whole", "1 2", "sample 0 7 7 = 155", "sample 0 7 6 = 111");
    }

    private static void outsideStandsTheNearest() {
        fetched("9 far up and left", "-256 -256", "sample 0 0 0 = 100", "sample 0 15 15 = 100", "sample 0 15 0 = 100");
        fetched("9 far down and right", "255 255", "sample 0 0 0 = 167", "sample 0 15 15 = 167");
        fetched("9 far right", "200 0", "sample 0 0 7 = 121", "sample 0 0 8 = 167");
        fetched("9 far down", "0 200", "sample 0 7 0 = 143", "sample 0 8 0 = 167");
        fetched("9 the last row and column", "14 16", "sample 0 8 7 = 167", "sample 0 0 15 = 143", "sample 0 15 8 = 167");
        fetched("9 half outside", "-15 0", "sample 0 0 0 = 100", "sample 0 15 0 = 111", "sample 0 14 0 = 100");
    }

    private static Script twoFlats(String name) {
        return new Script(name).say("size 2 1", "begin 1 1 1 false").flatSquare(128, 128, 128, 0, 0, 0, 0, 100, 50)
            .flatSquare(0, 100, 50, 200, 200, 200, 200, 201, 83).say("done");
    }

    private static void smallerPlanesHaveHalfTheVector() {
        String[][] right = {
            {"1", "false", "100", "100", "201"}, {"2", "false", "100", "151", "201"}, {"3", "false", "100", "151", "201"},
            {"4", "false", "100", "201", "201"}, {"6", "false", "151", "201", "201"}, {"1", "true", "100", "151", "201"},
            {"2", "true", "100", "201", "201"}, {"3", "true", "151", "201", "201"},
        };
        for (String[] t : right) {
            twoFlats("9 smaller planes, right " + t[0] + " " + t[1]).say(
                "begin 2 1 1 " + t[1], "vector 0 " + t[0] + " 0", "square", "leave 1", "done", "last",
                "sample 1 6 0 = " + t[2], "sample 1 7 0 = " + t[3], "sample 1 8 0 = " + t[4]);
        }
        String[][] left = {
            {"-1", "false", "201", "201", "83"}, {"-2", "false", "151", "201", "67"}, {"-3", "false", "151", "201", "67"},
            {"-4", "false", "100", "201", "50"}, {"-6", "false", "100", "151", "50"}, {"-1", "true", "151", "201", "67"},
            {"-3", "true", "100", "151", "50"},
        };
        for (String[] t : left) {
            twoFlats("9 smaller planes, left " + t[0] + " " + t[1]).say(
                "begin 2 1 1 " + t[1], "leave 1", "vector 0 " + t[0] + " 0", "square", "done", "last",
                "sample 1 8 0 = " + t[2], "sample 1 9 0 = " + t[3], "sample 2 8 7 = " + t[4]);
        }
        twoFlats("9 plane 0 of a whole picture").say(
            "begin 2 1 1 true", "vector 0 1 0", "square", "vector 0 -4 0", "square", "told 4 = -3", "done", "last",
            "sample 0 14 0 = 0", "sample 0 15 0 = 200", "sample 0 18 0 = 0", "sample 0 19 0 = 200");
    }

    private static void directionsAndReferences() {
        Script two = new Script("9 kind 3").flat(100, 100, 100, 100, 10, 20).flat(105, 105, 105, 105, 30, 41);
        two.say(
            "begin 3 1 1 false", "vector 0 0 0", "square", "done", "sample 0 0 0 = 100", "sample 1 0 0 = 10",
            "begin 3 1 1 false", "vector 1 0 0", "square", "done", "sample 0 0 0 = 105", "sample 2 0 0 = 41",
            "begin 3 1 1 false", "vector 1 0 0", "vector 0 0 0", "square", "done", "sample 0 0 0 = 103",
            "sample 1 0 0 = 20", "sample 2 0 0 = 31",
            "begin 2 1 1 false", "square", "done = 5", "sample 0 0 0 = 105", "last = 6", "sample 0 0 0 = 105",
            "begin 3 1 1 false", "vector 0 0 0", "square", "done", "sample 0 0 0 = 105");
        new Script("9 kind 3 with vectors of its own each").flat(100, 120, 100, 120, 10, 10)
            .flat(200, 240, 200, 240, 10, 10).say(
            "begin 3 1 1 false", "vector 0 2 0", "vector 1 -1 0", "square", "done",
            // Forward 120 at column 7 and 100 at 6; backward 220 at column 8 and 200 at 7.
            "sample 0 6 0 = 150", "sample 0 7 0 = 160", "sample 0 8 0 = 170", "sample 0 9 0 = 180");
        new Script("9 references at first").say(
            "begin 3 1 1 false", "vector 0 1 1", "vector 1 1 1", "square", "done = 1", "sample 0 0 0 = 128",
            "sample 1 7 7 = 128", "sample 2 7 7 = 128");
        new Script("9 kind 2 without a vector").flat(100, 120, 140, 160, 10, 10).say(
            "size 2 1", "begin 1 1 1 false").flatSquare(128, 128, 128, 100, 120, 100, 120, 1, 1)
            .flatSquare(120, 1, 1, 140, 160, 140, 160, 1, 1).say(
            "done", "begin 2 1 1 false", "vector 0 16 0", "told 4 = -16", "square", "square", "done", "last",
            "sample 0 15 0 = 100", "sample 0 16 0 = 140", "sample 0 24 0 = 160");
    }

    private static void leaveHasEdges() {
        new Script("10 none open").say("leave 1 ! argument", "leave 0 ! argument", "leave -1 ! argument");
        new Script("10 kind 1").say(
            "size 2 1", "begin 1 1 1 false", "leave 1 ! state", "leave 2 ! state", "leave 3 ! argument",
            "leave 0 ! argument", "itself", "square", "leave 2 ! argument", "leave 1 ! state");
        new Script("10 kind 2").say(
            "size 4 3", "begin 2 1 1 false", "leave 13 ! argument", "leave 0 ! argument", "leave 12 = 12",
            "leave 1 ! argument", "leave 0 ! argument", "done", "leave 1 ! argument");
        new Script("10 something told").say(
            "size 2 1", "begin 2 1 1 false", "level 5 63 0", "leave 1 ! state", "leave 3 ! argument", "square = 1",
            "vector 0 0 0", "leave 1 ! state", "leave 2 ! argument", "square = 2", "done",
            "begin 2 1 1 false", "itself", "leave 2 ! state", "square = 1", "leave 1 = 2", "done");
        new Script("10 kind 3").say(
            "size 4 1", "begin 3 1 1 false", "leave 1 ! state", "leave 5 ! argument", "itself", "square = 1",
            "leave 1 ! state", "vector 0 1 1", "leave 1 ! state", "square = 2", "leave 3 ! argument", "leave 1 = 3",
            "leave 1 = 4", "leave 1 ! argument", "done", "begin 3 1 1 false", "leave 1 ! state");
    }

    private static void leaveWithKindTwo() {
        twoFlats("10 not moved").say(
            "size 3 1", "begin 1 1 1 false").flatSquare(128, 128, 128, 10, 20, 30, 40, 50, 60)
            .flatSquare(40, 50, 60, 70, 80, 90, 100, 110, 120)
            .flatSquare(100, 110, 120, 130, 140, 150, 160, 170, 180).say(
            "done", "begin 2 1 1 false", "vector 0 9 9", "square = 1", "told 4 = 9", "leave 2 = 3", "told 4 = 0",
            "told 5 = 0", "told 1 = 3", "done", "last", "sample 0 16 0 = 70", "sample 0 31 15 = 100",
            "sample 1 8 0 = 110", "sample 0 32 0 = 130", "sample 0 47 0 = 140", "sample 0 32 15 = 150",
            "sample 2 23 7 = 180");
        new Script("10 pasts").say(
            "size 2 1", "begin 2 1 1 false", "itself", "level 0 0 9", "level 4 0 9", "level 5 0 9", "square",
            "told 8 = 1096", "leave 1", "told 8 = 1024", "told 9 = 1024", "told 10 = 1024");
    }

    private static void leaveWithKindThree() {
        Script three = new Script("10 as the square before").say("size 3 1", "begin 1 1 1 false")
            .flatSquare(128, 128, 128, 10, 10, 10, 10, 1, 1).flatSquare(10, 1, 1, 20, 20, 20, 20, 2, 2)
            .flatSquare(20, 2, 2, 30, 30, 30, 30, 3, 3).say("done", "begin 1 1 1 false")
            .flatSquare(128, 128, 128, 110, 110, 110, 110, 1, 1).flatSquare(110, 1, 1, 120, 120, 120, 120, 2, 2)
            .flatSquare(120, 2, 2, 130, 130, 130, 130, 3, 3).say("done");
        three.say(
            "begin 3 2 2 false", "vector 0 2 0", "square", "leave 2 = 3", "told 4 = 2", "done", "sample 0 15 0 = 20",
            "sample 0 30 0 = 20", "sample 0 31 0 = 30", "sample 0 47 0 = 30");
        three.say(
            "begin 3 2 2 false", "vector 1 -4 0", "square", "leave 1 = 2", "leave 1 = 3", "told 6 = -4", "done",
            "sample 0 0 0 = 110", "sample 0 17 0 = 110", "sample 0 18 0 = 120", "sample 0 33 0 = 120",
            "sample 0 34 0 = 130");
        three.say(
            "begin 3 2 2 false", "vector 0 2 0", "square", "vector 1 -4 0", "vector 0 -2 0", "square", "leave 1",
            "told 4 = 0", "told 6 = -4", "done", "sample 0 15 0 = 20", "sample 0 17 0 = 65", "sample 0 33 0 = 75",
            "sample 0 34 0 = 80", "told 8 = 1024");
        new Script("10 a direction of an earlier square is not taken").flat(10, 10, 10, 10, 1, 1)
            .flat(90, 90, 90, 90, 1, 1).say(
            "size 4 1", "begin 1 1 1 false", "itself", "level 0 0 50", "square").repeat(3, "itself", "square").say(
            "done", "begin 3 1 1 false", "vector 0 0 0", "square", "vector 1 0 0", "square", "leave 2", "done",
            "sample 0 0 0 = 128", "sample 0 16 0 = 178", "sample 0 63 0 = 178");
    }
}
