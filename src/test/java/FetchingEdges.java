/** Terms: what is fetched, by vectors of half samples, from where. */
final class FetchingEdges {
    // Made of the level 31: 2 * 31 = 62, made 61, at row 0, column 1, or at row 1, column 0.
    private static final int[] SLOPE = {139, 137, 134, 130, 126, 122, 119, 117};

    private FetchingEdges() {
    }

    static void all() {
        termsHalfTheVectorRoundedDown();
        termsTwoTogether();
        termsFourTogether();
        termsSmallerPlanes();
        termsSmallerPlanesDownward();
        termsSmallerPlanesTogether();
        termsOutsideToTheSides();
        termsOutsideAboveAndBelow();
        termsOutsideOfTheSmallerPlanes();
        termsOutsideIsOfThePicture();
        termsOutsideOfEachReference();
        termsWholeCountsTwice();
        termsWholeDownward();
        termsEachDirectionHasItsVector();
        termsVectorsOfTheSmallerPlanes();
        termsBothDirections();
        termsBothDirectionsOfHalves();
        termsKindTwoIsFetchedForward();
        termsKindThreeByEachDirection();
        termsReferencesAtFirst();
        termsReferencesChangePlaces();
    }

    /** The picture told before is fetched by the vector, and shown. */
    private static void fetched(Edge edge, String[] before, String vector, String... samples) {
        edge.at(Stages.with(before, "begin 2 16 1 false", "vector 0 " + vector, "square", "done", "last"))
            .taken(samples);
    }

    private static void termsHalfTheVectorRoundedDown() {
        Edge edge = new Edge(Document.TERMS, "FETCHED for plane 0: the sample as many whole ones away as half the vector, rounded down");
        String[] quarters = Stages.flat(100, 120, 140, 160, 50, 60);
        fetched(edge, quarters, "0 0", "sample 0 7 7 = 100", "sample 0 8 7 = 120", "sample 0 7 8 = 140");
        fetched(edge, quarters, "1 0", "sample 0 6 0 = 100", "sample 0 7 0 = 110", "sample 0 8 0 = 120");
        fetched(edge, quarters, "2 0", "sample 0 6 0 = 100", "sample 0 7 0 = 120");
        fetched(edge, quarters, "3 0", "sample 0 5 0 = 100", "sample 0 6 0 = 110", "sample 0 7 0 = 120");
        fetched(edge, quarters, "-1 0", "sample 0 7 0 = 100", "sample 0 8 0 = 110", "sample 0 9 0 = 120");
        fetched(edge, quarters, "-2 0", "sample 0 8 0 = 100", "sample 0 9 0 = 120");
        fetched(edge, quarters, "-3 0", "sample 0 8 0 = 100", "sample 0 9 0 = 110", "sample 0 10 0 = 120");
        fetched(edge, quarters, "0 1", "sample 0 0 6 = 100", "sample 0 0 7 = 120", "sample 0 0 8 = 140");
        fetched(edge, quarters, "0 2", "sample 0 0 6 = 100", "sample 0 0 7 = 140");
        fetched(edge, quarters, "0 -1", "sample 0 0 7 = 100", "sample 0 0 8 = 120", "sample 0 0 9 = 140");
        fetched(edge, quarters, "0 -2", "sample 0 0 8 = 100", "sample 0 0 9 = 140");
        fetched(edge, quarters, "0 -3", "sample 0 0 8 = 100", "sample 0 0 9 = 120", "sample 0 0 10 = 140");
    }

    private static void termsTwoTogether() {
        Edge edge = new Edge(Document.TERMS, "if it is odd, that and the next one, both together and 1, by 2; ... (rounded down)");
        // 200 + 1, 201 + 1, 202 + 1 and 203 + 1.
        fetched(edge, Stages.flat(100, 100, 101, 101, 0, 0), "1 0", "sample 0 7 0 = 100", "sample 0 7 8 = 101");
        fetched(edge, Stages.flat(100, 100, 101, 101, 0, 0), "0 1", "sample 0 0 6 = 100", "sample 0 0 7 = 101");
        fetched(edge, Stages.flat(100, 101, 100, 101, 0, 0), "1 0", "sample 0 7 0 = 101");
        fetched(edge, Stages.flat(100, 102, 100, 103, 0, 0), "1 0", "sample 0 7 0 = 101", "sample 0 7 8 = 102");
        fetched(edge, Stages.flat(100, 100, 102, 103, 0, 0), "0 1", "sample 0 0 7 = 101", "sample 0 8 7 = 102");
    }

    private static void termsFourTogether() {
        Edge edge = new Edge(Document.TERMS, "if both parts are odd, four together and 2, by 4 (rounded down)");
        fetched(edge, Stages.flat(100, 100, 100, 100, 0, 0), "1 1", "sample 0 7 7 = 100");
        fetched(edge, Stages.flat(100, 100, 100, 101, 0, 0), "1 1", "sample 0 7 7 = 100");
        fetched(edge, Stages.flat(100, 100, 101, 101, 0, 0), "1 1", "sample 0 7 7 = 101");
        fetched(edge, Stages.flat(100, 101, 101, 101, 0, 0), "1 1", "sample 0 7 7 = 101");
        fetched(edge, Stages.flat(101, 101, 101, 101, 0, 0), "1 1", "sample 0 7 7 = 101");
        fetched(edge, Stages.flat(100, 101, 101, 103, 0, 0), "-1 -1", "sample 0 8 8 = 101", "sample 0 7 7 = 100",
            "sample 0 8 7 = 101", "sample 0 9 9 = 103");
        fetched(edge, Stages.flat(100, 101, 102, 103, 0, 0), "-1 -1", "sample 0 8 8 = 102");
    }

    private static String[] sideBySide() {
        return Stages.with(new String[] {"size 2 1", "begin 1 1 1 false"}, Stages.with(
            Stages.flatSquare(128, 128, 128, 100, 100, 100, 100, 100, 50), Stages.with(
            Stages.flatSquare(100, 100, 50, 200, 200, 200, 200, 201, 83), "done")));
    }

    private static String[] oneBelow() {
        return Stages.with(new String[] {"size 1 2", "begin 1 1 1 false"}, Stages.with(
            Stages.flatSquare(128, 128, 128, 100, 100, 100, 100, 100, 50), Stages.with(
            Stages.flatSquare(100, 100, 50, 200, 200, 200, 200, 201, 83), "done")));
    }

    /** The second square fetches from the first one. */
    private static void secondFetched(Edge edge, String[] before, String vector, String... samples) {
        edge.at(Stages.with(before, "begin 2 16 1 false", "leave 1", "vector 0 " + vector, "square", "done", "last"))
            .taken(samples);
    }

    private static void firstFetched(Edge edge, String[] before, String vector, String... samples) {
        edge.at(Stages.with(before, "begin 2 16 1 false", "vector 0 " + vector, "square", "leave 1", "done", "last"))
            .taken(samples);
    }

    private static void termsSmallerPlanes() {
        Edge edge = new Edge(Document.TERMS, "Planes 1 and 2: likewise with the vector by 2, cut off");
        firstFetched(edge, sideBySide(), "1 0", "sample 1 7 0 = 100", "sample 2 7 0 = 50");
        firstFetched(edge, sideBySide(), "2 0", "sample 1 6 0 = 100", "sample 1 7 0 = 151", "sample 2 7 0 = 67");
        firstFetched(edge, sideBySide(), "3 0", "sample 1 6 0 = 100", "sample 1 7 0 = 151", "sample 2 7 0 = 67");
        firstFetched(edge, sideBySide(), "4 0", "sample 1 6 0 = 100", "sample 1 7 0 = 201", "sample 2 7 0 = 83");
        secondFetched(edge, sideBySide(), "-1 0", "sample 1 8 0 = 201", "sample 2 8 0 = 83");
        secondFetched(edge, sideBySide(), "-2 0", "sample 1 8 0 = 151", "sample 1 9 0 = 201", "sample 2 8 0 = 67");
        secondFetched(edge, sideBySide(), "-3 0", "sample 1 8 0 = 151", "sample 1 9 0 = 201", "sample 2 8 0 = 67");
        secondFetched(edge, sideBySide(), "-4 0", "sample 1 8 0 = 100", "sample 1 9 0 = 201", "sample 2 8 0 = 50");
        secondFetched(edge, sideBySide(), "-5 0", "sample 1 8 0 = 100", "sample 1 9 0 = 201", "sample 2 8 0 = 50");
    }

    private static void termsSmallerPlanesDownward() {
        Edge edge = new Edge(Document.TERMS, "Planes 1 and 2: likewise with the vector by 2, cut off", "downward");
        firstFetched(edge, oneBelow(), "0 1", "sample 1 0 7 = 100", "sample 2 0 7 = 50");
        firstFetched(edge, oneBelow(), "0 2", "sample 1 0 6 = 100", "sample 1 0 7 = 151", "sample 2 0 7 = 67");
        firstFetched(edge, oneBelow(), "0 4", "sample 1 0 6 = 100", "sample 1 0 7 = 201", "sample 2 0 7 = 83");
        secondFetched(edge, oneBelow(), "0 -1", "sample 1 0 8 = 201", "sample 2 0 8 = 83");
        secondFetched(edge, oneBelow(), "0 -3", "sample 1 0 8 = 151", "sample 1 0 9 = 201", "sample 2 0 8 = 67");
        secondFetched(edge, oneBelow(), "0 -4", "sample 1 0 8 = 100", "sample 1 0 9 = 201", "sample 2 0 8 = 50");
    }

    private static String[] fourSquares(int first, int right, int below, int last) {
        return Stages.with(new String[] {"size 2 2", "begin 1 1 1 false"}, Stages.with(
            Stages.flatSquare(128, 128, 128, 1, 1, 1, 1, first, 255 - first), Stages.with(
            Stages.flatSquare(1, first, 255 - first, 2, 2, 2, 2, right, 255 - right), Stages.with(
            Stages.flatSquare(2, right, 255 - right, 3, 3, 3, 3, below, 255 - below), Stages.with(
            Stages.flatSquare(3, below, 255 - below, 4, 4, 4, 4, last, 255 - last), "done")))));
    }

    /** The first of four squares is fetched half a sample of planes 1 and 2 down and to the right. */
    private static void fourTogether(Edge edge, String[] before, int first, int second) {
        edge.at(Stages.with(before, "begin 2 1 1 false", "vector 0 2 2", "square", "leave 3", "done", "last"))
            .taken("sample 1 7 7 = " + first, "sample 2 7 7 = " + second);
    }

    private static void termsSmallerPlanesTogether() {
        Edge edge = new Edge(Document.TERMS, "Planes 1 and 2: likewise", "two and four together");
        // 400, 401, 402 and 403, and 2, by 4; plane 2 has what is left of 255: 620, 619, 618 and 617.
        fourTogether(edge, fourSquares(100, 100, 100, 100), 100, 155);
        fourTogether(edge, fourSquares(100, 100, 100, 101), 100, 155);
        fourTogether(edge, fourSquares(100, 100, 101, 101), 101, 155);
        fourTogether(edge, fourSquares(100, 101, 101, 101), 101, 154);
        // With one part odd: 201 and 1 by 2; plane 2 has 309.
        edge.at(Stages.with(fourSquares(100, 101, 101, 90), "begin 2 1 1 false", "vector 0 2 0", "square", "leave 3",
                "done", "last")).taken("sample 1 7 0 = 101", "sample 2 7 7 = 155", "sample 1 6 0 = 100");
        edge.at(Stages.with(fourSquares(100, 90, 101, 90), "begin 2 1 1 false", "vector 0 0 2", "square", "leave 3",
                "done", "last")).taken("sample 1 0 7 = 101", "sample 2 7 7 = 155", "sample 1 0 6 = 100");
    }

    private static void termsVectorsOfTheSmallerPlanes() {
        // Both references are alike, so that the vector alone shows.
        String[] across = Stages.with(sideBySide(), Stages.with(again(), "begin 3 1 1 false"));
        String[] below = Stages.with(oneBelow(), Stages.with(again(), "begin 3 1 1 false"));
        new Edge(Document.TERMS, "Planes 1 and 2: likewise", "with each direction")
            .at(across)
            .taken("vector 0 4 0", "square", "leave 1", "done", "sample 1 6 0 = 100", "sample 1 7 0 = 201",
                "sample 2 6 0 = 50", "sample 2 7 0 = 83", "sample 2 7 7 = 83")
            .taken("vector 1 4 0", "square", "leave 1", "done", "sample 1 6 0 = 100", "sample 1 7 0 = 201",
                "sample 2 6 0 = 50", "sample 2 7 0 = 83", "sample 2 7 7 = 83")
            .taken("vector 0 0 0", "vector 1 4 0", "square", "leave 1", "done", "sample 1 7 0 = 151", "sample 2 7 0 = 67")
            .at(below)
            .taken("vector 0 0 4", "square", "leave 1", "done", "sample 1 0 6 = 100", "sample 1 0 7 = 201",
                "sample 2 0 6 = 50", "sample 2 0 7 = 83", "sample 2 7 7 = 83")
            .taken("vector 1 0 4", "square", "leave 1", "done", "sample 1 0 6 = 100", "sample 1 0 7 = 201",
                "sample 2 0 6 = 50", "sample 2 0 7 = 83", "sample 2 7 7 = 83")
            .taken("vector 0 0 0", "vector 1 0 4", "square", "leave 1", "done", "sample 1 0 7 = 151", "sample 2 0 7 = 67");
    }

    /** The same picture of two squares once more, all of it left out. */
    private static String[] again() {
        return new String[] {"begin 2 1 1 false", "leave 2", "done"};
    }

    private static void termsBothDirectionsOfHalves() {
        // 100 and 101 make 101, 200 and 203 make 202: 303 and 1, by 2. All four together would make 151.
        new Edge(Document.TERMS, "With both directions: both together and 1, by 2", "behind the halves of each")
            .at(Stages.with(Stages.flat(100, 101, 100, 101, 1, 1), Stages.with(Stages.flat(200, 203, 200, 203, 1, 1),
                "begin 3 1 1 false", "vector 0 1 0", "vector 1 1 0")))
            .taken("square", "done", "sample 0 6 0 = 150", "sample 0 7 0 = 152", "sample 0 8 0 = 152")
            // And f is added to both together: 93 makes 12.
            .taken("scale 31", "level 0 0 1", "square", "done", "sample 0 6 0 = 162", "sample 0 7 0 = 164",
                "sample 0 8 0 = 152");
    }

    /** Some pictures of w by h squares, each with the samples 10 to 60 in its first one and 11 to 61 in its last. */
    private static String[] pictures(int w, int h, int count) {
        String[] between = {"leave " + (w * h - 2)};
        String[] last = Stages.flatSquare(128, 128, 128, 11, 21, 31, 41, 51, 61);
        if (w * h == 2) {
            between = new String[] {};
            last = Stages.flatSquare(40, 50, 60, 11, 21, 31, 41, 51, 61);
        }
        String[] calls = {"size " + w + " " + h};
        for (int i = 0; i < count; i++) {
            calls = Stages.with(calls, "begin 2 1 1 false");
            calls = Stages.with(calls, Stages.flatSquare(128, 128, 128, 10, 20, 30, 40, 50, 60));
            calls = Stages.with(Stages.with(calls, between), Stages.with(last, "done"));
        }
        return calls;
    }

    private static void termsOutsideOfEachReference() {
        Edge edge = new Edge(Document.TERMS, "Outside of the picture stand the samples nearest there",
            "whichever picture became the reference, in pictures longer than high, and higher than long");
        int[][] sizes = {{2, 1}, {1, 2}, {4, 1}, {1, 3}, {4, 3}, {3, 2}};
        for (int[] size : sizes) {
            int rest = size[0] * size[1] - 1;
            for (int count = 1; count <= 4; count++) {
                String[] told = Stages.with(pictures(size[0], size[1], count), "begin 2 16 1 false");
                String[] end = {"square", "leave " + rest, "done", "last"};
                edge.at(Stages.with(told, Stages.with(new String[] {"vector 0 -256 -256"}, end)))
                    .taken("sample 0 0 0 = 10", "sample 0 15 15 = 10", "sample 1 7 7 = 50", "sample 2 0 7 = 60");
                edge.at(Stages.with(told, Stages.with(new String[] {"vector 0 255 255"}, end)))
                    .taken("sample 0 0 0 = 41", "sample 0 15 15 = 41", "sample 1 0 0 = 51", "sample 2 7 0 = 61");
            }
        }
    }

    /** A picture whose blocks all slope, from left to right (place 1 of the zigzag) or downward (place 2). */
    private static String[] slope(int place) {
        String[] calls = {"begin 1 1 1 false", "itself"};
        for (int block = 0; block < 6; block++) {
            calls = Stages.with(calls, "level " + block + " " + place + " 31");
        }
        return Stages.with(calls, "square", "done");
    }

    /** The sample at place at of a row is due to be the mean of those at two places of the slope. */
    private static String across(int plane, int at, int one, int other) {
        return "sample " + plane + " " + at + " 0 = " + (SLOPE[one] + SLOPE[other] + 1) / 2;
    }

    private static String down(int plane, int at, int one, int other) {
        return "sample " + plane + " 0 " + at + " = " + (SLOPE[one] + SLOPE[other] + 1) / 2;
    }

    private static void termsOutsideToTheSides() {
        Edge edge = new Edge(Document.TERMS, "Outside of the picture stand the samples nearest there", "left and right");
        fetched(edge, slope(1), "0 0", across(0, 0, 0, 0), across(0, 1, 1, 1), across(0, 14, 6, 6), across(0, 15, 7, 7));
        fetched(edge, slope(1), "1 0", across(0, 14, 6, 7), across(0, 15, 7, 7));
        fetched(edge, slope(1), "2 0", across(0, 13, 6, 6), across(0, 14, 7, 7), across(0, 15, 7, 7));
        fetched(edge, slope(1), "3 0", across(0, 13, 6, 7), across(0, 14, 7, 7), across(0, 15, 7, 7));
        fetched(edge, slope(1), "-1 0", across(0, 0, 0, 0), across(0, 1, 0, 1));
        fetched(edge, slope(1), "-2 0", across(0, 0, 0, 0), across(0, 1, 0, 0), across(0, 2, 1, 1));
        fetched(edge, slope(1), "-3 0", across(0, 1, 0, 0), across(0, 2, 0, 1));
        fetched(edge, slope(1), "30 0", across(0, 0, 7, 7), across(0, 15, 7, 7));
        fetched(edge, slope(1), "29 0", across(0, 0, 6, 7), across(0, 1, 7, 7));
        fetched(edge, slope(1), "-30 0", across(0, 15, 0, 0), across(0, 0, 0, 0));
        fetched(edge, slope(1), "-29 0", across(0, 15, 0, 1), across(0, 14, 0, 0));
        fetched(edge, slope(1), "255 0", across(0, 0, 7, 7), across(0, 15, 7, 7));
        fetched(edge, slope(1), "-256 0", across(0, 0, 0, 0), across(0, 15, 0, 0));
    }

    private static void termsOutsideAboveAndBelow() {
        Edge edge = new Edge(Document.TERMS, "Outside of the picture stand the samples nearest there", "above and below");
        fetched(edge, slope(2), "0 0", down(0, 0, 0, 0), down(0, 1, 1, 1), down(0, 14, 6, 6), down(0, 15, 7, 7));
        fetched(edge, slope(2), "0 1", down(0, 14, 6, 7), down(0, 15, 7, 7));
        fetched(edge, slope(2), "0 2", down(0, 13, 6, 6), down(0, 14, 7, 7), down(0, 15, 7, 7));
        fetched(edge, slope(2), "0 -1", down(0, 0, 0, 0), down(0, 1, 0, 1));
        fetched(edge, slope(2), "0 -2", down(0, 0, 0, 0), down(0, 1, 0, 0), down(0, 2, 1, 1));
        fetched(edge, slope(2), "0 30", down(0, 0, 7, 7), down(0, 15, 7, 7));
        fetched(edge, slope(2), "0 29", down(0, 0, 6, 7), down(0, 1, 7, 7));
        fetched(edge, slope(2), "0 -29", down(0, 15, 0, 1), down(0, 14, 0, 0));
        fetched(edge, slope(2), "0 255", down(0, 0, 7, 7), down(0, 15, 7, 7));
        fetched(edge, slope(2), "0 -256", down(0, 0, 0, 0), down(0, 15, 0, 0));
    }

    private static void termsOutsideOfTheSmallerPlanes() {
        Edge edge = new Edge(Document.TERMS, "Outside of the picture stand the samples nearest there", "planes 1 and 2");
        fetched(edge, slope(1), "2 0", across(1, 6, 6, 7), across(1, 7, 7, 7), across(2, 7, 7, 7));
        fetched(edge, slope(1), "-2 0", across(1, 0, 0, 0), across(1, 1, 0, 1), across(2, 0, 0, 0));
        fetched(edge, slope(1), "28 0", across(1, 0, 7, 7), across(2, 7, 7, 7));
        fetched(edge, slope(1), "26 0", across(1, 0, 6, 7), across(2, 1, 7, 7));
        fetched(edge, slope(1), "-26 0", across(1, 7, 0, 1), across(2, 6, 0, 0));
        fetched(edge, slope(1), "-256 0", across(1, 0, 0, 0), across(2, 7, 0, 0));
        fetched(edge, slope(2), "0 2", down(1, 6, 6, 7), down(1, 7, 7, 7), down(2, 7, 7, 7));
        fetched(edge, slope(2), "0 -2", down(1, 0, 0, 0), down(1, 1, 0, 1), down(2, 0, 0, 0));
        fetched(edge, slope(2), "0 255", down(1, 0, 7, 7), down(2, 7, 7, 7));
        fetched(edge, slope(2), "0 -256", down(1, 0, 0, 0), down(2, 7, 0, 0));
    }

    private static void termsOutsideIsOfThePicture() {
        Edge edge = new Edge(Document.TERMS, "Outside of the picture", "not of the square");
        firstFetched(edge, sideBySide(), "1 0", "sample 0 14 0 = 100", "sample 0 15 0 = 150", "sample 0 16 0 = 200");
        firstFetched(edge, sideBySide(), "-2 0", "sample 0 0 0 = 100", "sample 0 15 0 = 100");
        secondFetched(edge, sideBySide(), "-1 0", "sample 0 16 0 = 150", "sample 0 17 0 = 200");
        secondFetched(edge, sideBySide(), "2 0", "sample 0 31 0 = 200", "sample 0 16 0 = 200");
        firstFetched(edge, oneBelow(), "0 2", "sample 0 0 14 = 100", "sample 0 0 15 = 200", "sample 0 0 16 = 200");
        secondFetched(edge, oneBelow(), "0 -1", "sample 0 0 16 = 150", "sample 0 0 17 = 200");
    }

    private static void termsWholeCountsTwice() {
        String[] whole = Stages.with(sideBySide(), "begin 2 1 1 true");
        String[] half = Stages.with(sideBySide(), "begin 2 1 1 false");
        String[] end = {"square", "leave 1", "done", "last"};
        Edge edge = new Edge(Document.TERMS, "If the picture is WHOLE it counts twice when it is used");
        edge.at(Stages.with(half, Stages.with(new String[] {"vector 0 1 0", "told 4 = 1"}, end)))
            .taken("sample 0 14 0 = 100", "sample 0 15 0 = 150", "sample 1 7 0 = 100");
        edge.at(Stages.with(whole, Stages.with(new String[] {"vector 0 1 0", "told 4 = 1"}, end)))
            .taken("sample 0 14 0 = 100", "sample 0 15 0 = 200", "sample 1 7 0 = 151");
        // 15 and 16 steps to the right: the one is the farthest, the other goes round to 16 steps to the left.
        edge.at(Stages.with(whole, Stages.with(new String[] {"vector 0 15 0", "told 4 = 15"}, end)))
            .taken("sample 0 0 0 = 100", "sample 0 1 0 = 200", "sample 1 0 0 = 151", "sample 1 1 0 = 201");
        edge.at(Stages.with(whole, Stages.with(new String[] {"vector 0 16 0", "told 4 = -16"}, end)))
            .taken("sample 0 0 0 = 100", "sample 0 15 0 = 100", "sample 1 7 0 = 100");
    }

    private static void termsWholeDownward() {
        // Both references are alike, so that the vector alone shows.
        String[] below = Stages.with(oneBelow(), Stages.with(again(), "begin 3 1 1 true"));
        new Edge(Document.TERMS, "If the picture is WHOLE it counts twice when it is used", "downward, in each direction")
            .at(below)
            .taken("vector 0 0 1", "told 5 = 1", "square", "leave 1", "done", "sample 0 0 14 = 100", "sample 0 0 15 = 200",
                "sample 1 0 6 = 100", "sample 1 0 7 = 151", "sample 2 0 7 = 67")
            .taken("vector 1 0 1", "told 7 = 1", "square", "leave 1", "done", "sample 0 0 14 = 100", "sample 0 0 15 = 200",
                "sample 1 0 6 = 100", "sample 1 0 7 = 151", "sample 2 0 7 = 67")
            .taken("vector 0 0 3", "vector 1 0 1", "square", "leave 1", "done", "sample 0 0 12 = 100",
                "sample 0 0 13 = 150", "sample 0 0 15 = 200", "sample 1 0 6 = 126", "sample 1 0 7 = 176");
    }

    private static void termsEachDirectionHasItsVector() {
        String[] both = Stages.with(Stages.flat(10, 20, 30, 40, 1, 2), Stages.flat(110, 120, 130, 140, 3, 4));
        new Edge(Document.TERMS, "VECTORS, in half samples: x and y of each direction, 0 at first")
            .at(Stages.with(both, "begin 3 1 1 false"))
            .taken("told 4 = 0", "told 5 = 0", "told 6 = 0", "told 7 = 0")
            .taken("vector 0 2 0", "square", "done", "sample 0 7 0 = 20", "sample 0 0 7 = 10", "sample 0 7 8 = 40")
            .taken("vector 0 0 2", "square", "done", "sample 0 7 0 = 10", "sample 0 0 7 = 30", "sample 0 8 7 = 40")
            .taken("vector 1 2 0", "square", "done", "sample 0 7 0 = 120", "sample 0 0 7 = 110", "sample 0 7 8 = 140")
            .taken("vector 1 0 2", "square", "done", "sample 0 7 0 = 110", "sample 0 0 7 = 130", "sample 0 8 7 = 140")
            .taken("vector 0 2 0", "vector 1 0 2", "square", "done", "sample 0 7 0 = 65", "sample 0 0 7 = 70")
            .taken("vector 0 0 2", "vector 1 2 0", "square", "done", "sample 0 7 0 = 65", "sample 0 0 7 = 70");
    }

    private static void termsBothDirections() {
        Edge edge = new Edge(Document.TERMS, "With both directions: both together and 1, by 2");
        String[] both = {"begin 3 1 1 false", "vector 0 0 0", "vector 1 0 0", "square", "done"};
        edge.at(Stages.with(Stages.flat(100, 100, 100, 100, 100, 100),
            Stages.with(Stages.flat(100, 101, 102, 103, 104, 105), both)))
            .taken("sample 0 0 0 = 100", "sample 0 8 0 = 101", "sample 0 0 8 = 101", "sample 0 8 8 = 102",
                "sample 1 0 0 = 102", "sample 2 0 0 = 103");
        edge.at(Stages.with(Stages.flat(255, 0, 255, 0, 255, 0), Stages.with(Stages.flat(255, 0, 0, 255, 254, 1), both)))
            .taken("sample 0 0 0 = 255", "sample 0 8 0 = 0", "sample 0 0 8 = 128", "sample 0 8 8 = 128",
                "sample 1 0 0 = 255", "sample 2 0 0 = 1");
    }

    private static void termsKindTwoIsFetchedForward() {
        new Edge(Document.TERMS, "A square of the kind 2 that is not for itself is fetched forward, always")
            .at(Stages.with(Stages.flat(10, 20, 30, 40, 50, 60), "begin 2 1 1 false"))
            .taken("square = 1", "done = 1", "last = 2", "sample 0 0 0 = 10", "sample 0 15 15 = 40", "sample 2 0 0 = 60")
            .taken("vector 0 2 0", "square = 1", "done = 1", "last = 2", "sample 0 7 0 = 20")
            .taken("itself", "square = 1", "done = 1", "last = 2", "sample 0 0 0 = 128", "sample 2 0 0 = 128");
    }

    private static void termsKindThreeByEachDirection() {
        String[] second = Stages.with(Stages.flat(50, 50, 50, 50, 5, 5), "begin 3 1 1 false");
        new Edge(Document.TERMS, "of the kind 3 by each direction that was told for it")
            .at(Stages.with(Stages.flat(10, 10, 10, 10, 1, 1), second))
            .taken("vector 0 0 0", "square", "done", "sample 0 0 0 = 10", "sample 1 0 0 = 1")
            .taken("vector 1 0 0", "square", "done", "sample 0 0 0 = 50", "sample 1 0 0 = 5")
            .taken("vector 0 0 0", "vector 1 0 0", "square", "done", "sample 0 0 0 = 30", "sample 1 0 0 = 3")
            .taken("vector 1 0 0", "vector 1 0 0", "square", "done", "sample 0 0 0 = 50")
            .taken("itself", "square", "done", "sample 0 0 0 = 128");
        // For it, and not for the square before.
        new Edge(Document.TERMS, "by each direction that was told for it", "the square before does not count")
            .at(Stages.with(sideBySide(), "begin 1 1 1 false", "itself", "square", "itself", "square", "done",
                "begin 3 1 1 false", "vector 0 0 0", "vector 1 0 0", "square"))
            .taken("vector 0 0 0", "square", "done", "sample 0 0 0 = 114", "sample 0 16 0 = 200")
            .taken("vector 1 0 0", "square", "done", "sample 0 0 0 = 114", "sample 0 16 0 = 128");
    }

    private static void termsReferencesAtFirst() {
        new Edge(Document.TERMS, "Two REFERENCES, the OLD and the NEW one, have all samples 128 at first")
            .at(new String[] {"begin 3 1 1 false"})
            .taken("vector 0 3 3", "square", "done = 1", "sample 0 0 0 = 128", "sample 1 7 7 = 128", "sample 2 0 7 = 128")
            .taken("vector 1 3 3", "square", "done = 1", "sample 0 15 15 = 128", "sample 1 0 0 = 128")
            .at(new String[] {"begin 2 1 1 false"})
            .taken("vector 0 -5 9", "square", "done = 0", "last = 1", "sample 0 0 15 = 128", "sample 2 7 7 = 128")
            // Behind the first picture the old one still has, and behind the second one it has not.
            .at(Stages.with(Stages.flat(10, 10, 10, 10, 1, 1), "begin 3 1 1 false", "vector 0 0 0", "square", "done = 1"))
            .taken("sample 0 0 0 = 128", "sample 1 0 0 = 128");
    }

    private static void termsReferencesChangePlaces() {
        String[] first = Stages.flat(10, 10, 10, 10, 1, 1);
        String[] second = Stages.with(first, Stages.flat(20, 20, 20, 20, 2, 2));
        String[] forward = {"begin 3 1 1 false", "vector 0 0 0", "square", "done"};
        String[] backward = {"begin 3 1 1 false", "vector 1 0 0", "square", "done"};
        String[] twoDone = Stages.with(second, "begin 2 1 1 false", "level 0 0 2", "square", "done");
        String[] threeDone = Stages.with(second, "begin 3 1 1 false", "itself", "square", "done");
        new Edge(Document.TERMS, "When a picture of the kind 1 or 2 is done, the new reference becomes the old one, and it is the new one")
            .at(Stages.with(first, forward)).taken("sample 0 0 0 = 128")
            .at(Stages.with(first, backward)).taken("sample 0 0 0 = 10")
            .at(Stages.with(second, forward)).taken("sample 0 0 0 = 10")
            .at(Stages.with(second, backward)).taken("sample 0 0 0 = 20")
            .at(Stages.with(twoDone, forward)).taken("sample 0 0 0 = 20")
            .at(Stages.with(twoDone, backward)).taken("sample 0 0 0 = 21", "sample 0 8 0 = 20")
            // A picture of the kind 3 is no reference.
            .at(Stages.with(threeDone, forward)).taken("sample 0 0 0 = 10")
            .at(Stages.with(threeDone, backward)).taken("sample 0 0 0 = 20");
    }
}
