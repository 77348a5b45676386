/** Promises 14, 15 and 17: colour, light, error. */
final class LightEdges {
    private static final String LEAST = "-2147483648";
    private static final String MOST = "2147483647";
    private static final String[] NONE_SHOWN = Stages.flat(100, 100, 100, 100, 1, 1);
    private static final String[] SHOWN = Stages.with(Stages.flat(100, 100, 100, 100, 1, 1), "last");

    private LightEdges() {
    }

    static void all() {
        promise14RedGreenBlue();
        promise14FromLeftToRight();
        promise14NoneWasShown();
        promise14Places();
        promise14HalfThePlace();
        promise14Red();
        promise14Green();
        promise14Blue();
        promise14CutOff();
        promise15Gain();
        promise15Offset();
        promise15NoneWasShown();
        promise15NotBelowNorAbove();
        promise15CutOff();
        promise15InWhatIsShownAlone();
        promise17NoneWasShown();
        promise17NoneWasKeptSinceSize();
        promise17Differences();
        promise17OneByOne();
        promise17RowByRow();
    }

    private static int mix(int red, int green, int blue) {
        return 65536 * red + 256 * green + blue;
    }

    /** The samples are y, and p and q more than 128. */
    private static void colour(Edge edge, int y, int p, int q, int red, int green, int blue) {
        edge.at(Stages.with(Stages.flat(y, y, y, y, 128 + p, 128 + q), "last"))
            .taken("colour 0 0 = " + mix(red, green, blue), "colour 15 15 = " + mix(red, green, blue));
    }

    private static void promise14RedGreenBlue() {
        Edge edge = new Edge(14, "The colour at a place of plane 0 of the picture that was shown last: 65536 times the red,"
            + " 256 times the green, and the blue, together. With its sample y, and p and q those of planes 1 and 2 there");
        // Red 100 + 28.04, green 100 - 3.44 - 14.28, blue 100 + 17.72; then each alone.
        edge.at(Stages.with(Stages.flat(100, 110, 120, 130, 138, 148), "last"))
            .taken("colour 0 0 = " + (65536 * 128 + 256 * 82 + 118), "colour 15 0 = " + (65536 * 138 + 256 * 92 + 128),
                "colour 0 15 = " + (65536 * 148 + 256 * 102 + 138), "colour 15 15 = " + (65536 * 158 + 256 * 112 + 148));
        colour(edge, 0, 0, 100, 140, 0, 0);
        colour(edge, 0, -100, 0, 0, 34, 0);
        colour(edge, 0, 0, -100, 0, 71, 0);
        colour(edge, 0, 100, 0, 0, 0, 177);
        // Of what is shown, lit as it is now, and not of the picture that is told, or of the new reference.
        edge.at(Stages.with(SHOWN, Stages.with(Stages.flat(200, 200, 200, 200, 128, 128), "light 0 50")))
            .taken("colour 3 3 = " + mix(0, 184, 0), "begin 3 1 1 false", "itself", "square", "colour 3 3 = " + mix(0, 184, 0),
                "done", "colour 3 3 = " + mix(128, 128, 128), "last", "colour 3 3 = " + mix(200, 200, 200));
        // To look at it changes nothing.
        edge.at(Stages.CLOSED, Stages.OPEN_2, Stages.TOLD_3, Stages.FULL_1)
            .same(new String[] {}, new String[] {"colour 0 0", "colour 31 15"});
    }

    private static void promise14FromLeftToRight() {
        Edge edge = new Edge(14, "as floats, 128 less both: ... from left to right, all in floats");
        // In doubles the green would be 19; from right to left, or with both taken together first, 221 and 237.
        colour(edge, 0, 50, -50, 0, 18, 89);
        colour(edge, 239, -50, 50, 255, 220, 150);
        colour(edge, 255, -50, 50, 255, 236, 166);
    }

    private static void promise14NoneWasShown() {
        new Edge(14, "IllegalStateException: none was")
            .at(Stages.NEW, NONE_SHOWN, Stages.with(SHOWN, "size 1 1"))
            .refused("colour 0 0 ! state", "colour 15 15 ! state")
            // Named first, also where there is no such sample.
            .refused("colour -1 0 ! state", "colour 0 -1 ! state", "colour 16 0 ! state", "colour 0 16 ! state")
            .at(new String[] {"begin 2 1 1 false", "square", "done", "last"}).taken("colour 0 0 = " + mix(128, 128, 128));
    }

    private static void promise14Places() {
        Edge edge = new Edge(14, "IndexOutOfBoundsException: there is no such sample");
        int grey = mix(128, 128, 128);
        for (int w = 1; w <= 4; w++) {
            for (int h = 1; h <= 3; h++) {
                int right = 16 * w - 1;
                int bottom = 16 * h - 1;
                edge.at(new String[] {"size " + w + " " + h, "begin 2 1 1 false", "leave " + w * h, "done", "last"})
                    .taken("colour 0 0 = " + grey, "colour " + right + " 0 = " + grey, "colour 0 " + bottom + " = " + grey,
                        "colour " + right + " " + bottom + " = " + grey, "colour -1 0 ! index", "colour 0 -1 ! index",
                        "colour " + (right + 1) + " " + bottom + " ! index",
                        "colour " + right + " " + (bottom + 1) + " ! index");
            }
        }
        edge.at(Stages.CLOSED, Stages.FULL_2)
            .refused("colour 32 15 ! index", "colour 31 16 ! index", "colour -1 15 ! index", "colour 31 -1 ! index",
                "colour " + LEAST + " 0 ! index", "colour 0 " + LEAST + " ! index", "colour " + MOST + " 0 ! index",
                "colour 0 " + MOST + " ! index");
    }

    private static void promise14HalfThePlace() {
        // Two squares of 100 whose planes 1 and 2 differ: the colour changes between columns, or rows, 15 and 16.
        String[] squares = Stages.with(Stages.flatSquare(128, 128, 128, 100, 100, 100, 100, 128, 128),
            Stages.with(Stages.flatSquare(100, 128, 128, 100, 100, 100, 100, 138, 148), "done", "last"));
        int grey = mix(100, 100, 100);
        int other = mix(128, 82, 118);
        // Columns 1 and 2 of plane 1 differ by one, and so do 5 and 6: 5 at row 0, column 1 makes that.
        String[] slope = {"begin 2 1 1 false", "level 4 1 2", "square", "done", "last"};
        new Edge(14, "those of planes 1 and 2 there (x / 2, y / 2)")
            .at(Stages.with(new String[] {"size 2 1", "begin 1 1 1 false"}, squares))
            .taken("colour 15 0 = " + grey, "colour 16 0 = " + other, "colour 0 15 = " + grey, "colour 31 15 = " + other)
            .at(Stages.with(new String[] {"size 1 2", "begin 1 1 1 false"}, squares))
            .taken("colour 0 15 = " + grey, "colour 0 16 = " + other, "colour 15 15 = " + grey, "colour 15 31 = " + other)
            .at(slope).taken("sample 1 1 0 = 129", "sample 1 2 0 = 128", "sample 1 5 0 = 128", "sample 1 6 0 = 127",
                "colour 2 0 = " + mix(128, 128, 130), "colour 3 0 = " + mix(128, 128, 130),
                "colour 4 0 = " + mix(128, 128, 128), "colour 11 0 = " + mix(128, 128, 128),
                "colour 12 0 = " + mix(128, 128, 126));
    }

    private static void promise14Red() {
        Edge edge = new Edge(14, "red y + 1.402 q; ... not below 0, nor above 255");
        // 254.402, 255.402 and 256.402; then -1.402, -0.402, 0.598.
        colour(edge, 253, 0, 1, 254, 252, 253);
        colour(edge, 254, 0, 1, 255, 253, 254);
        colour(edge, 255, 0, 1, 255, 254, 255);
        colour(edge, 255, 0, 127, 255, 164, 255);
        colour(edge, 0, 0, -1, 0, 1, 0);
        colour(edge, 1, 0, -1, 0, 2, 1);
        colour(edge, 2, 0, -1, 1, 3, 2);
        colour(edge, 0, 0, -128, 0, 91, 0);
    }

    private static void promise14Green() {
        Edge edge = new Edge(14, "green y - 0.344136 p - 0.714136 q; ... not below 0, nor above 255");
        // 253.688, 254.688, 255.688; then -0.344, -0.688, -1.721 and 0.656.
        colour(edge, 253, -2, 0, 253, 254, 249);
        colour(edge, 254, -2, 0, 254, 255, 250);
        colour(edge, 255, -2, 0, 255, 255, 251);
        colour(edge, 255, -128, -128, 76, 255, 28);
        colour(edge, 0, 1, 0, 0, 0, 2);
        colour(edge, 0, 2, 0, 0, 0, 4);
        colour(edge, 0, 5, 0, 0, 0, 9);
        colour(edge, 1, 1, 0, 1, 1, 3);
        colour(edge, 0, 127, 127, 178, 0, 225);
    }

    private static void promise14Blue() {
        Edge edge = new Edge(14, "blue y + 1.772 p, ... not below 0, nor above 255");
        // 253.772, 254.772, 255.772; then -1.772, -0.772, 0.228 and 1.228.
        colour(edge, 252, 1, 0, 252, 252, 254);
        colour(edge, 253, 1, 0, 253, 253, 255);
        colour(edge, 254, 1, 0, 254, 254, 255);
        colour(edge, 255, 127, 0, 255, 211, 255);
        colour(edge, 0, -1, 0, 0, 0, 0);
        colour(edge, 1, -1, 0, 1, 1, 0);
        colour(edge, 2, -1, 0, 2, 2, 0);
        colour(edge, 3, -1, 0, 3, 3, 1);
        colour(edge, 0, -128, 0, 0, 44, 0);
    }

    private static void promise14CutOff() {
        Edge edge = new Edge(14, "each and 0.5, cut off");
        // Red 1.402 * 46 = 64.492 and 1.402 * 51 = 71.502.
        colour(edge, 0, 0, 46, 64, 0, 0);
        colour(edge, 0, 0, 51, 72, 0, 0);
        // Blue 1.772 * 125 is 221.5 in floats: 32 more is 253.5, 33 more 254.5; below, 0.5 is left of 222.
        colour(edge, 32, 125, 0, 32, 0, 254);
        colour(edge, 33, 125, 0, 33, 0, 255);
        colour(edge, 222, -125, 0, 222, 255, 1);
        colour(edge, 221, -125, 0, 221, 255, 0);
    }

    private static String written(float v) {
        return Float.toString(v);
    }

    private static void promise15Gain() {
        String above = written(Math.nextUp(1000f));
        String[] refused = {
            "light " + above + " 0 ! argument", "light -" + above + " 0 ! argument", "light NaN 0 ! argument",
            "light Infinity 0 ! argument", "light -Infinity 0 ! argument", "light 3.4028235E38 0 ! argument",
            "light 1001 -100000 ! argument", "light -1001 100000 ! argument",
        };
        new Edge(15, "IllegalArgumentException: gain is not -1000 to 1000")
            .at(SHOWN)
            .taken("light 1000 -99900", "sample 0 0 0 = 100").taken("light -1000 100000", "sample 0 0 0 = 0")
            .taken("light -1000 100000", "light -1000 100", "sample 0 15 15 = 100")
            .taken("light " + written(Math.nextDown(1000f)) + " -99900", "sample 0 0 0 = 99")
            .taken("light 0 100", "sample 0 0 0 = 100").taken("light -0.0 100", "sample 0 0 0 = 100")
            .at(SHOWN, Stages.NEW, NONE_SHOWN, Stages.CLOSED, Stages.TOLD_2).refused(refused);
    }

    private static void promise15Offset() {
        String above = written(Math.nextUp(100000f));
        String[] refused = {
            "light 1 " + above + " ! argument", "light 1 -" + above + " ! argument", "light 1 NaN ! argument",
            "light 1 Infinity ! argument", "light 1 -Infinity ! argument", "light 0 3.4028235E38 ! argument",
            "light NaN NaN ! argument", "light 1000 100001 ! argument",
        };
        new Edge(15, "IllegalArgumentException: ... offset not -100000 to 100000")
            .at(SHOWN)
            .taken("light -999 100000", "sample 0 0 0 = 100", "sample 1 0 0 = 1")
            .taken("light 1000 -100000", "sample 0 0 0 = 0").taken("light 1000 -99999", "sample 0 0 0 = 1")
            .taken("light 0 100000", "sample 0 0 0 = 255").taken("light 0 -100000", "sample 0 0 0 = 0")
            .at(SHOWN, Stages.NEW, NONE_SHOWN, Stages.CLOSED, Stages.TOLD_2).refused(refused);
    }

    private static void promise15NoneWasShown() {
        new Edge(15, "IllegalStateException: none was")
            .at(Stages.NEW, NONE_SHOWN, Stages.with(SHOWN, "size 1 1"), new String[] {"begin 3 1 1 false", "itself", "square"})
            .refused("light 1 0 ! state", "light 1000 100000 ! state", "light -1000 -100000 ! state")
            // The argument is named first.
            .refused("light 1001 0 ! argument", "light 1 100001 ! argument", "light NaN 0 ! argument")
            .at(SHOWN, Stages.with(SHOWN, "begin 1 1 1 false")).taken("light 1 1", "sample 0 0 0 = 101");
    }

    private static void promise15NotBelowNorAbove() {
        new Edge(15, "not below 0, nor above 255")
            .at(SHOWN)
            .taken("light 1 154", "sample 0 0 0 = 254").taken("light 1 155", "sample 0 0 0 = 255")
            .taken("light 1 155.99", "sample 0 0 0 = 255").taken("light 1 156", "sample 0 0 0 = 255")
            .taken("light 1 157", "sample 0 0 0 = 255").taken("light 1000 100000", "sample 0 0 0 = 255")
            .taken("light 1 -99", "sample 0 0 0 = 1").taken("light 1 -100", "sample 0 0 0 = 0")
            .taken("light 1 -101", "sample 0 0 0 = 0").taken("light -1000 -100000", "sample 0 0 0 = 0")
            // What is held is what the next call goes on from.
            .taken("light 1 200", "light 1 -1", "sample 0 0 0 = 254").taken("light 1 -200", "light 1 1", "sample 0 0 0 = 1");
    }

    private static void promise15CutOff() {
        new Edge(15, "gain times v, plus offset, in floats, cut off")
            .at(SHOWN)
            .taken("light 1 0.99", "sample 0 0 0 = 100").taken("light 1 1", "sample 0 0 0 = 101")
            .taken("light 1 -0.01", "sample 0 0 0 = 99").taken("light 1 -99.01", "sample 0 0 0 = 0")
            .taken("light 1 -100.99", "sample 0 0 0 = 0").taken("light 0.5 0.5", "sample 0 0 0 = 50")
            // 0.01 is a little less as a float, but 100 of them are 1 as a float, and less as a double.
            .taken("light 0.01 0", "sample 0 0 0 = 1")
            // A millionth less than 100 is still 100 as a float, ten of them less is not.
            .taken("light 1 -0.000001", "sample 0 0 0 = 100").taken("light 1 -0.00001", "sample 0 0 0 = 99")
            // The product is a float, too: 202 times -10.7 and 2169.4 would be less than 8 if it were cut off but once.
            .at(Stages.with(Stages.flat(202, 170, 145, 220, 1, 1), "last"))
            .taken("light -10.7 2169.4", "sample 0 0 0 = 8").taken("light -43.84 7487.8", "sample 0 8 0 = 35")
            .taken("light -366.12 53232.4", "sample 0 0 8 = 145").taken("light 305.02 -67071.4", "sample 0 8 8 = 33");
    }

    private static void promise15InWhatIsShownAlone() {
        String[] lit = Stages.with(SHOWN, "light 0 7");
        new Edge(15, "All samples v of plane 0 of the picture that was shown last become ... (in what is shown alone)")
            .at(lit).taken("sample 0 0 0 = 7", "sample 0 15 0 = 7", "sample 0 0 15 = 7", "sample 0 15 15 = 7",
                "sample 1 0 0 = 1", "sample 2 7 7 = 1")
            .taken("begin 2 1 1 false", "square", "done = 1", "sample 0 0 0 = 7", "last = 2", "sample 0 0 0 = 100")
            .taken("begin 3 1 1 false", "vector 1 0 0", "square", "done = 2", "sample 0 0 0 = 100")
            .taken("begin 3 1 1 false", "vector 0 0 0", "square", "done = 2", "sample 0 0 0 = 128")
            // Nor in the picture that is told meanwhile, or in any that is shown later.
            .taken("begin 3 1 1 false", "vector 1 0 0", "square", "light 0 9", "sample 0 0 0 = 9", "done = 2",
                "sample 0 0 0 = 100", "light 0 8", "begin 3 1 1 false", "vector 1 0 0", "square", "done = 3",
                "sample 0 0 0 = 100")
            .at(new String[] {"size 4 3", "begin 2 1 1 false", "leave 12", "done", "last", "light 1 1"})
            .taken("sample 0 0 0 = 129", "sample 0 63 47 = 129", "sample 0 63 0 = 129", "sample 0 0 47 = 129",
                "sample 1 31 23 = 128", "sample 2 31 23 = 128");
    }

    private static void promise17NoneWasShown() {
        new Edge(17, "IllegalStateException: none was shown")
            .at(Stages.NEW, NONE_SHOWN, Stages.with(SHOWN, "keep", "size 1 1")).refused("error ! state")
            .at(Stages.with(SHOWN, "keep")).taken("error = 0.0");
    }

    private static void promise17NoneWasKeptSinceSize() {
        String[] again = Stages.with(SHOWN, Stages.with(new String[] {"keep", "size 1 1"}, SHOWN));
        new Edge(17, "IllegalStateException: none was ... kept since size()")
            .at(SHOWN, again).refused("error ! state").taken("keep", "error = 0.0", "light 1 2", "error = 4.0")
            // A size that is refused is none.
            .at(Stages.with(SHOWN, "keep")).taken("size 5 1 ! argument", "error = 0.0");
    }

    private static void promise17Differences() {
        String[] kept = Stages.with(SHOWN, "keep");
        new Edge(17, "The differences of all samples of plane 0 of the picture shown last and the one that is kept, each times"
            + " itself, ... and by their number (a float)")
            .at(kept).taken("error = 0.0").taken("light 1 1", "error = 1.0").taken("light 1 -1", "error = 1.0")
            .taken("light 0 0", "error = 10000.0").taken("light 0 255", "error = 24025.0")
            // One block of four differs by 1; planes 1 and 2 do not count.
            .at(Stages.with(kept, Stages.with(Stages.flat(100, 100, 100, 101, 90, 90), "last"))).taken("error = 0.25")
            .at(Stages.with(kept, Stages.with(Stages.flat(100, 100, 100, 100, 90, 90), "last"))).taken("error = 0.0")
            // To ask for it changes nothing.
            .at(Stages.CLOSED, Stages.OPEN_2, Stages.TOLD_3, Stages.FULL_1).same(new String[] {}, new String[] {"error"});
    }

    private static void promise17OneByOne() {
        // 3072 times 254 * 254 is more than a float holds to the last place, 3072 times 10000 is not.
        new Edge(17, "as floats added one by one")
            .at(new String[] {"size 4 3", "begin 2 1 1 false", "leave 12", "done", "last", "light 0 0", "keep"})
            .taken("light 0 254", "error = 64513.35546875").taken("light 0 100", "error = 10000.0");
    }

    private static void promise17RowByRow() {
        // Against a kept picture of 0; the sum is more than a float holds to the last place, so its order shows: column
        // by column it would be 17293.8984375, square by square 17293.6640625, from the last row on 17294.123046875.
        String[] calls = {
            "size 3 2", "begin 2 1 1 false", "leave 6", "done = 0", "last = 1", "light 0 0", "keep", "begin 1 1 1 false",
        };
        int past = 128;
        for (int sample : new int[] {123, 227, 149, 115, 41, 1}) {
            calls = Stages.with(calls, "itself", "level 0 0 " + (sample - past), "square");
            past = sample;
        }
        new Edge(17, "as floats added one by one, row by row").at(calls)
            .taken("done = 1", "last = 2", "error = 17293.701171875");
    }
}
