/** Terms: how levels become coefficients, and coefficients samples. */
final class ReckoningEdges {
    private static final String[] ITSELF = {"begin 1 1 1 false", "itself"};
    private static final String[] FETCHED = {"begin 2 1 1 false"};
    private static final String[] END = {"square = 1", "done", "last"};

    private ReckoningEdges() {
    }

    static void all() {
        termsCutOff();
        termsMadeOdd();
        termsZeroIsNotMadeOdd();
        termsCoefficientNotAbove();
        termsCoefficientNotBelow();
        termsFirstCoefficientIsNotScaled();
        termsOneMoreOneLess();
        termsOthersAreCutOffAndMadeOdd();
        termsOthersAreHeld();
        termsZigzag();
        termsWaveGoesRound();
        termsFirstSumIsRoundedDown();
        termsSecondSumIsRoundedDown();
        termsSamplesForItselfAreHeld();
        termsSumsAreHeld();
    }

    /** The calls up to the picture that is shown, and the samples that are due then. */
    private static void shows(Edge edge, String[] start, String[] told, String... samples) {
        edge.at(Stages.with(start, Stages.with(told, END))).taken(samples);
    }

    private static String[] told(String... calls) {
        return calls;
    }

    private static void termsCutOff() {
        Edge edge = new Edge(Document.TERMS, "2 times the level, times the SCALE, times the number of MATRIX 0 there, by 16, cut off");
        // 2 * 8 * 61 / 16 = 61; 2 * 6 * 81 / 16 = 60.75, cut off 60, made 59.
        shows(edge, ITSELF, told("matrix 0 1 61", "level 0 1 8"), "sample 0 0 0 = 139", "sample 0 7 0 = 117");
        shows(edge, ITSELF, told("matrix 0 1 81", "level 0 1 6"), "sample 0 0 0 = 138", "sample 0 7 0 = 118");
        shows(edge, ITSELF, told("matrix 0 1 61", "level 0 1 -8"), "sample 0 0 0 = 117", "sample 0 7 0 = 139");
        shows(edge, ITSELF, told("matrix 0 1 81", "level 0 1 -6"), "sample 0 0 0 = 118", "sample 0 7 0 = 138");
        // With the scale 2 or 3 in place of levels twice or thrice as large.
        shows(edge, ITSELF, told("scale 2", "matrix 0 1 61", "level 0 1 4"), "sample 0 0 0 = 139", "sample 0 7 0 = 117");
        shows(edge, ITSELF, told("scale 3", "matrix 0 1 81", "level 0 1 -2"), "sample 0 0 0 = 118", "sample 0 7 0 = 138");
    }

    private static void termsMadeOdd() {
        Edge edge = new Edge(Document.TERMS, "made odd, if it is even and not 0, by one toward 0");
        // 2 * 30 = 60 becomes 59, 2 * 8 * 61 / 16 = 61 stays, 2 * 31 = 62 becomes 61.
        shows(edge, ITSELF, told("level 0 1 30"), "sample 0 0 0 = 138", "sample 0 7 0 = 118");
        shows(edge, ITSELF, told("matrix 0 1 61", "level 0 1 8"), "sample 0 0 0 = 139", "sample 0 7 0 = 117");
        shows(edge, ITSELF, told("level 0 1 31"), "sample 0 0 0 = 139", "sample 0 7 0 = 117");
        shows(edge, ITSELF, told("level 0 1 -30"), "sample 0 0 0 = 118", "sample 0 7 0 = 138");
        shows(edge, ITSELF, told("level 0 1 -31"), "sample 0 0 0 = 117", "sample 0 7 0 = 139");
        // The smallest: 2 becomes 1, which shows nothing alone, and 4 becomes 3.
        shows(edge, ITSELF, told("level 0 1 1"), "sample 0 0 0 = 128", "sample 0 7 0 = 128");
        shows(edge, ITSELF, told("level 0 1 2"), "sample 0 0 0 = 129", "sample 0 7 0 = 127");
        shows(edge, ITSELF, told("level 0 1 -2"), "sample 0 0 0 = 127", "sample 0 7 0 = 129");
    }

    private static String[] everywhere(int number, int level) {
        String[] calls = new String[126];
        for (int i = 1; i < 64; i++) {
            calls[2 * i - 2] = "matrix 0 " + i + " " + number;
            calls[2 * i - 1] = "level 0 " + i + " " + level;
        }
        return calls;
    }

    private static void termsZeroIsNotMadeOdd() {
        Edge edge = new Edge(Document.TERMS, "made odd, if it is even and not 0");
        // 2 * 7 / 16 is cut off to 0, and 2 * 8 / 16 is 1: everywhere in a block, so that it shows.
        shows(edge, ITSELF, everywhere(7, 1), "sample 0 0 0 = 128", "sample 0 1 0 = 128", "sample 0 2 0 = 128");
        shows(edge, ITSELF, everywhere(7, -1), "sample 0 0 0 = 128", "sample 0 1 0 = 128", "sample 0 2 0 = 128");
        shows(edge, ITSELF, everywhere(255, 0), "sample 0 0 0 = 128", "sample 0 1 0 = 128", "sample 0 2 0 = 128");
        shows(edge, ITSELF, everywhere(8, 1), "sample 0 0 0 = 135", "sample 0 1 0 = 126", "sample 0 2 0 = 129");
        shows(edge, ITSELF, everywhere(8, -1), "sample 0 0 0 = 121", "sample 0 1 0 = 130", "sample 0 2 0 = 126");
    }

    private static void termsCoefficientNotAbove() {
        Edge edge = new Edge(Document.TERMS, "nor above 2047");
        // At row 7, column 7: 2046 would make 183 at (6, 0), and 2048 148 at (0, 0).
        // 2 * 125 * 131 / 16 = 2046.9, made 2045; 2 * 127 * 129 / 16 = 2047.9; 2 * 82 * 200 / 16 = 2050, made 2049.
        shows(edge, ITSELF, told("matrix 0 63 131", "level 0 63 125"), "sample 0 0 0 = 147", "sample 0 6 0 = 183");
        shows(edge, ITSELF, told("matrix 0 63 129", "level 0 63 127"), "sample 0 0 0 = 147", "sample 0 6 0 = 184");
        shows(edge, ITSELF, told("matrix 0 63 200", "level 0 63 82"), "sample 0 0 0 = 147", "sample 0 6 0 = 184");
        shows(edge, ITSELF, told("matrix 0 63 255", "scale 31", "level 0 63 255"),
            "sample 0 0 0 = 147", "sample 0 6 0 = 184");
    }

    private static void termsCoefficientNotBelow() {
        Edge edge = new Edge(Document.TERMS, "not below -2048");
        // At (7, 0), -2047 makes 147 with the past 1024, -2048 148; with the past 760 it is -2049 that makes one more.
        String[] last = {"matrix 0 63 129", "level 0 63 -127"};
        String[] next = {"matrix 0 63 200", "level 0 63 -82"};
        String[] most = {"matrix 0 63 255", "scale 31", "level 0 63 -255"};
        String[] lower = Stages.with(ITSELF, "level 0 0 -33");
        shows(edge, ITSELF, last, "sample 0 7 0 = 147");
        shows(edge, ITSELF, next, "sample 0 7 0 = 148");
        shows(edge, ITSELF, most, "sample 0 7 0 = 148");
        shows(edge, lower, last, "sample 0 7 0 = 114");
        shows(edge, lower, next, "sample 0 7 0 = 114");
        shows(edge, lower, most, "sample 0 7 0 = 114");
    }

    private static void termsFirstCoefficientIsNotScaled() {
        Edge edge = new Edge(Document.TERMS, "A square for itself: of each block the coefficient at row 0, column 0 is the PAST of its"
            + " plane, ... The others:");
        // Place 0 is the past, whatever the scale and the matrix; place 1 is scaled: 2 * 1 * 31 * 16 / 16 = 62, made 61.
        String[] loud = Stages.with(ITSELF, "matrix 0 0 255", "scale 31");
        shows(edge, loud, told("level 0 0 1"), "told 8 = 1032", "sample 0 0 0 = 129", "sample 0 7 0 = 129");
        shows(edge, loud, told("level 0 1 1"), "told 8 = 1024", "sample 0 0 0 = 139", "sample 0 7 0 = 117");
    }

    private static void termsOneMoreOneLess() {
        Edge edge = new Edge(Document.TERMS, "2 times the level, and 1 more if that is above 0, 1 less if below (0 stays 0)");
        // 3 and -3 at row 0, column 1 change the first and the last sample of a row, 0 changes none.
        shows(edge, FETCHED, told("level 0 1 1"), "sample 0 0 0 = 129", "sample 0 1 0 = 128", "sample 0 7 0 = 127");
        shows(edge, FETCHED, told("level 0 1 -1"), "sample 0 0 0 = 127", "sample 0 1 0 = 128", "sample 0 7 0 = 129");
        shows(edge, FETCHED, told("level 0 1 0"), "sample 0 0 0 = 128", "sample 0 1 0 = 128", "sample 0 7 0 = 128");
        // 2 * 2 + 1 = 5 changes the second one, too.
        shows(edge, FETCHED, told("level 0 1 2"), "sample 0 0 0 = 129", "sample 0 1 0 = 129", "sample 0 7 0 = 127");
        // Before the scale: 3 * 31 = 93 makes 12, 2 * 31 + 1 = 63 would make 8.
        shows(edge, FETCHED, told("scale 31", "level 0 0 1"), "sample 0 0 0 = 140", "sample 0 8 0 = 128");
        shows(edge, FETCHED, told("scale 31", "level 0 0 -1"), "sample 0 0 0 = 116", "sample 0 8 0 = 128");
        shows(edge, FETCHED, told("scale 31", "level 0 0 0"), "sample 0 0 0 = 128", "sample 0 8 0 = 128");
    }

    private static void termsOthersAreCutOffAndMadeOdd() {
        Edge edge = new Edge(Document.TERMS, "Another square: each coefficient so with matrix 1");
        // 3 * 22 / 16 = 4.1, cut off 4, made 3; 3 * 27 / 16 = 5.06, cut off 5; 3 * 26 / 16 = 4.9, made 3.
        shows(edge, FETCHED, told("matrix 1 1 22", "level 0 1 1"), "sample 0 0 0 = 129", "sample 0 1 0 = 128");
        shows(edge, FETCHED, told("matrix 1 1 26", "level 0 1 1"), "sample 0 0 0 = 129", "sample 0 1 0 = 128");
        shows(edge, FETCHED, told("matrix 1 1 27", "level 0 1 1"), "sample 0 0 0 = 129", "sample 0 1 0 = 129");
        shows(edge, FETCHED, told("matrix 1 1 26", "level 0 1 -1"), "sample 0 0 0 = 127", "sample 0 1 0 = 128");
        shows(edge, FETCHED, told("matrix 1 1 27", "level 0 1 -1"), "sample 0 0 0 = 127", "sample 0 1 0 = 127");
        // Place 0 as well: 3 * 26 / 16 makes 3, and nothing shows; 3 * 27 / 16 = 5 makes 1. Matrix 0 does not count.
        shows(edge, FETCHED, told("matrix 0 0 255", "matrix 1 0 26", "level 0 0 1"), "sample 0 0 0 = 128");
        shows(edge, FETCHED, told("matrix 0 0 255", "matrix 1 0 27", "level 0 0 1"), "sample 0 0 0 = 129");
        shows(edge, FETCHED, told("matrix 1 0 26", "level 0 0 -1"), "sample 0 0 0 = 128");
        shows(edge, FETCHED, told("matrix 1 0 27", "level 0 0 -1"), "sample 0 0 0 = 127");
    }

    private static void termsOthersAreHeld() {
        Edge edge = new Edge(Document.TERMS, "Another square: each coefficient so", "not below -2048, nor above 2047");
        // At row 1, column 1: 131 * 250 / 16 = 2046.9, made 2045; 201 * 163 / 16 = 2047.7.
        shows(edge, FETCHED, told("matrix 1 9 250", "level 0 4 65"), "sample 0 3 2 = 183");
        shows(edge, FETCHED, told("matrix 1 9 163", "level 0 4 100"), "sample 0 3 2 = 184");
        shows(edge, FETCHED, told("matrix 1 9 255", "scale 31", "level 0 4 255"), "sample 0 3 2 = 184");
        // With -85 in the first place, at row 7, column 7: 205 * 160 / 16 = 2050, made 2049, which would make 201.
        String[] less = Stages.with(FETCHED, "level 0 0 -42");
        shows(edge, less, told("matrix 1 63 163", "level 0 63 100"), "sample 0 2 0 = 200");
        shows(edge, less, told("matrix 1 63 160", "level 0 63 102"), "sample 0 2 0 = 200");
        // -2047 makes 200 and 215, -2048 makes 201 and 215, -2049 would make 201 and 216.
        shows(edge, less, told("matrix 1 63 163", "level 0 63 -100"), "sample 0 5 0 = 200", "sample 0 0 3 = 215");
        shows(edge, less, told("matrix 1 63 160", "level 0 63 -102"), "sample 0 5 0 = 201", "sample 0 0 3 = 215");
    }

    /** The level 128 makes 256, made 255; the samples are those at (0, 0), (7, 0), (0, 7) and (1, 3). */
    private static void place(Edge edge, int i, int first, int right, int below, int inside) {
        shows(edge, ITSELF, told("level 0 " + i + " 128"), "sample 0 0 0 = " + first, "sample 0 7 0 = " + right,
            "sample 0 0 7 = " + below, "sample 0 1 3 = " + inside);
    }

    private static void termsZigzag() {
        Edge edge = new Edge(Document.TERMS, "the ZIGZAG: ... by rows downward if it is odd, else upward");
        // Rows and columns 0 1, 1 0; 2 0, 1 1, 0 2: the first two of its lines, where it turns round.
        place(edge, 1, 172, 84, 172, 165);
        place(edge, 2, 172, 172, 84, 137);
        place(edge, 3, 170, 170, 170, 86);
        place(edge, 4, 189, 67, 67, 138);
        place(edge, 5, 170, 170, 170, 145);
        // 0 7 to 7 0, and 7 1: the longest line, and the first one behind it.
        place(edge, 28, 137, 119, 137, 103);
        place(edge, 35, 137, 137, 119, 84);
        place(edge, 36, 140, 116, 116, 76);
        // 6 7, 7 6; 7 7: the last two.
        place(edge, 61, 133, 123, 133, 142);
        place(edge, 62, 133, 133, 123, 186);
        place(edge, 63, 130, 126, 126, 163);
    }

    /** The level 128, made 255, at row 0, column u, or at row u, column 0: one row of samples, or one column. */
    private static void wave(Edge edge, int rowPlace, int columnPlace, int... samples) {
        String[] row = new String[8];
        String[] column = new String[8];
        for (int i = 0; i < 8; i++) {
            row[i] = "sample 0 " + i + " 0 = " + samples[i];
            column[i] = "sample 0 0 " + i + " = " + samples[i];
        }
        shows(edge, ITSELF, told("level 0 " + rowPlace + " 128"), row);
        shows(edge, ITSELF, told("level 0 " + columnPlace + " 128"), column);
    }

    private static void termsWaveGoesRound() {
        Edge edge = new Edge(Document.TERMS, "which goes round by 32: ... 9 .. 16: less than 0, as 16 - p; 17 .. 31: as 32 - p");
        // Places 1 to 15, then 2 to 30, and from u = 3 on more than 31: 33 is 1, 35 is 3, up to 105, which is 9.
        wave(edge, 1, 2, 172, 165, 153, 137, 119, 103, 91, 84);
        wave(edge, 5, 3, 170, 145, 111, 86, 86, 111, 145, 170);
        wave(edge, 6, 9, 165, 119, 84, 103, 153, 172, 137, 91);
        wave(edge, 14, 10, 160, 96, 96, 160, 160, 96, 96, 160);
        wave(edge, 15, 20, 153, 84, 137, 165, 91, 119, 172, 103);
        wave(edge, 27, 21, 145, 86, 170, 111, 111, 170, 86, 145);
        wave(edge, 28, 35, 137, 103, 165, 84, 172, 91, 153, 119);
    }

    private static void termsFirstSumIsRoundedDown() {
        Edge edge = new Edge(Document.TERMS, "t(v, x) is the sum ... and 128, by 256; ... (rounded down, both)");
        // 724 * 11 - 1004 * 5 + 128 = 3072 is 12 times 256: 12 makes 1, and 11 would make 0.
        shows(edge, FETCHED, told("level 0 0 5", "level 0 6 2"), "sample 0 2 0 = 129");
        // -1004 * 3 + 128 = -2884 is -11.3 times 256: -12 makes -1, and -11 would make 0.
        shows(edge, FETCHED, told("level 0 1 1"), "sample 0 7 0 = 127", "sample 0 0 0 = 129");
        // 851 * -91 + 128 = -77313 is one less than -302 times 256: -303 makes -11 in row 5, and -302 would make -10.
        shows(edge, FETCHED, told("level 0 38 -45"), "sample 0 0 0 = 117");
    }

    private static void termsSecondSumIsRoundedDown() {
        Edge edge = new Edge(Document.TERMS, "f(y, x) the sum ... and 8192, by 16384 (rounded down, both)");
        // t is 1024: 392 * 1024 + 8192 is 25 times 16384, and with one coefficient less it is below that.
        shows(edge, FETCHED, told("level 0 34 130"), "sample 0 0 0 = 153", "sample 0 7 0 = 104");
        shows(edge, FETCHED, told("level 0 34 129"), "sample 0 0 0 = 152", "sample 0 7 0 = 104");
        // 461 * 3 = 1383 makes t 5111: 569 * 5111 + 8192 is one less than 178 times 16384.
        shows(edge, Stages.with(Stages.flat(50, 50, 50, 50, 50, 50), FETCHED), told("scale 3", "level 0 33 230"),
            "sample 0 0 0 = 227");
        // 3 makes 0 and 5 makes 1, -3 makes 0 and -5 makes -1, as -0.1 is rounded down.
        shows(edge, FETCHED, told("level 0 0 1"), "sample 0 0 0 = 128");
        shows(edge, FETCHED, told("level 0 0 2"), "sample 0 0 0 = 129");
        shows(edge, FETCHED, told("level 0 0 -1"), "sample 0 0 0 = 128");
        shows(edge, FETCHED, told("level 0 0 -2"), "sample 0 0 0 = 127");
    }

    private static void termsSamplesForItselfAreHeld() {
        Edge edge = new Edge(Document.TERMS, "A square for itself has the f, ... each not below 0, nor above 255");
        // The level 3 makes 6, made 5: one more at the left end of a row, one less (or two) at its right end.
        shows(edge, ITSELF, told("level 0 0 126", "level 0 1 3"), "sample 0 0 0 = 255", "sample 0 7 0 = 253");
        shows(edge, ITSELF, told("level 0 0 127", "level 0 1 3"), "sample 0 0 0 = 255", "sample 0 7 0 = 254");
        shows(edge, ITSELF, told("level 0 0 -127", "level 0 1 3"), "sample 0 0 0 = 2", "sample 0 7 0 = 0");
        shows(edge, ITSELF, told("level 0 0 -128", "level 0 1 3"), "sample 0 0 0 = 1", "sample 0 7 0 = 0");
        shows(edge, ITSELF, told("level 5 0 127", "level 5 1 255"), "sample 2 0 0 = 255", "sample 2 7 0 = 167");
        shows(edge, ITSELF, told("level 4 0 -128", "level 4 1 255"), "sample 1 0 0 = 88", "sample 1 7 0 = 0");
    }

    private static void termsSumsAreHeld() {
        Edge edge = new Edge(Document.TERMS, "others the sum of f and what is fetched, each not below 0, nor above 255");
        // The level 1 makes 3: one more at the left end of a row, one less at its right end.
        String[] ends = {"level 0 1 1", "level 1 1 1", "level 2 1 1", "level 3 1 1", "level 4 1 1", "level 5 1 1"};
        shows(edge, Stages.with(Stages.flat(254, 255, 1, 0, 255, 0), FETCHED), ends,
            "sample 0 0 0 = 255", "sample 0 7 0 = 253", "sample 0 8 0 = 255", "sample 0 15 0 = 254",
            "sample 0 0 8 = 2", "sample 0 7 8 = 0", "sample 0 8 8 = 1", "sample 0 15 8 = 0",
            "sample 1 0 0 = 255", "sample 1 7 0 = 254", "sample 2 0 0 = 1", "sample 2 7 0 = 0");
        // Far outside: 511 * 31 is held at 2047, which is 256.
        shows(edge, Stages.with(Stages.flat(255, 0, 0, 255, 9, 9), FETCHED),
            told("scale 31", "level 0 0 255", "level 1 0 -255", "level 2 0 255", "level 3 0 -255"),
            "sample 0 0 0 = 255", "sample 0 8 0 = 0", "sample 0 0 8 = 255", "sample 0 8 8 = 0", "sample 1 0 0 = 9");
    }
}
