/** Promises 4 to 8, and what Terms says of vectors and levels: begin, scale, itself, vector, level. */
final class TellingEdges {
    private static final String LEAST = "-2147483648";
    private static final String MOST = "2147483647";

    private TellingEdges() {
    }

    static void all() {
        promise4Begins();
        promise4Kind();
        promise4ReachForward();
        promise4ReachBackward();
        promise4OneIsOpen();
        termsArgumentIsNamedFirst();
        promise4ScaleIsOne();
        termsPastsAndVectorsAgain();
        promise5Scale();
        promise5NoPictureIsOpen();
        promise5FromTheSquareOn();
        promise6Itself();
        promise6NoPictureIsOpen();
        promise6AllSquaresAreThere();
        promise6VectorWasTold();
        promise7IsTold();
        promise7Direction();
        promise7Reach();
        promise7ReachOfTheLastBegin();
        promise7NoPictureIsOpen();
        promise7AllSquaresAreThere();
        promise7SquareForItself();
        promise7Kinds();
        termsGoesRound();
        termsVectorsAreZeroAgain();
        promise8IsTold();
        promise8Block();
        promise8Place();
        promise8Level();
        promise8NoPictureIsOpen();
        promise8AllSquaresAreThere();
        termsZeroAtFirst();
    }

    private static void promise4Begins() {
        // Two pictures of 10 and 20 on their left, 110 and 120 on their right: one sample away, or two if it is whole.
        String[] sides = Stages.with(Stages.flat(10, 110, 10, 110, 1, 2), Stages.flat(20, 120, 20, 120, 3, 4));
        new Edge(4, "A picture begins, with reaches forward and backward, whole or not")
            .at(Stages.NEW, sides)
            .taken("begin 3 2 3 false", "told 0 = 3", "told 1 = 0", "vector 0 33 0 ! argument", "vector 1 0 -49 ! argument",
                "vector 0 31 -32", "vector 1 47 -48", "told 4 = 31", "told 5 = -32", "told 6 = 47", "told 7 = -48")
            .at(sides)
            .taken("begin 3 1 1 false", "vector 0 2 0", "square", "done", "sample 0 6 0 = 10", "sample 0 7 0 = 110")
            .taken("begin 3 1 1 true", "vector 0 2 0", "square", "done", "sample 0 5 0 = 10", "sample 0 6 0 = 110")
            .taken("begin 3 1 1 false", "vector 1 2 0", "square", "done", "sample 0 6 0 = 20", "sample 0 7 0 = 120")
            .taken("begin 3 1 1 true", "vector 1 2 0", "square", "done", "sample 0 5 0 = 20", "sample 0 6 0 = 120")
            // Each picture is whole, or not, for itself.
            .taken("begin 3 1 1 true", "itself", "square", "done", "begin 3 1 1 false", "vector 0 1 0", "square", "done",
                "sample 0 6 0 = 10", "sample 0 7 0 = 60", "sample 0 8 0 = 110");
    }

    private static void promise4Kind() {
        new Edge(4, "IllegalArgumentException: kind is not 1 to 3")
            .at(Stages.NONE_OPEN)
            .taken("begin 1 1 1 false", "told 0 = 1", "vector 0 0 0 ! state", "told 1 = 0")
            .taken("begin 2 1 1 false", "told 0 = 2", "vector 1 0 0 ! state", "vector 0 0 0")
            .taken("begin 3 1 1 false", "told 0 = 3", "vector 1 0 0", "vector 0 0 0")
            .refused("begin 0 1 1 false ! argument", "begin 4 1 1 false ! argument", "begin -1 1 1 true ! argument",
                "begin " + LEAST + " 1 1 false ! argument", "begin " + MOST + " 1 1 false ! argument");
    }

    private static void promise4ReachForward() {
        Edge edge = new Edge(4, "IllegalArgumentException: ... a reach not 1 to 16", "forward").at(Stages.NONE_OPEN)
            .taken("begin 3 1 2 false", "vector 0 17 0 ! argument", "vector 0 0 -17 ! argument", "vector 0 16 -16")
            .taken("begin 3 16 2 false", "vector 0 257 0 ! argument", "vector 0 0 -257 ! argument", "vector 0 256 -256")
            .refused("begin 3 " + LEAST + " 1 true ! argument", "begin 3 " + MOST + " 1 false ! argument");
        // A reach is looked at with each kind, also if it has no vectors.
        for (int kind = 1; kind <= 3; kind++) {
            edge.taken("begin " + kind + " 1 5 true", "told 0 = " + kind)
                .taken("begin " + kind + " 16 5 false", "told 0 = " + kind)
                .refused("begin " + kind + " 0 5 false ! argument", "begin " + kind + " 17 5 true ! argument");
        }
    }

    private static void promise4ReachBackward() {
        Edge edge = new Edge(4, "IllegalArgumentException: ... a reach not 1 to 16", "backward").at(Stages.NONE_OPEN)
            .taken("begin 3 2 1 false", "vector 1 17 0 ! argument", "vector 1 0 -17 ! argument", "vector 1 16 -16")
            .taken("begin 3 2 16 false", "vector 1 257 0 ! argument", "vector 1 0 -257 ! argument", "vector 1 256 -256")
            .refused("begin 3 1 " + LEAST + " true ! argument", "begin 3 1 " + MOST + " false ! argument");
        for (int kind = 1; kind <= 3; kind++) {
            edge.taken("begin " + kind + " 5 1 true", "told 0 = " + kind)
                .taken("begin " + kind + " 5 16 false", "told 0 = " + kind)
                .refused("begin " + kind + " 5 0 false ! argument", "begin " + kind + " 5 17 true ! argument");
        }
    }

    private static void promise4OneIsOpen() {
        new Edge(4, "IllegalStateException: one is open")
            .at(Stages.NONE_OPEN).taken("begin 2 1 1 false", "told 0 = 2", "told 1 = 0")
            .at(Stages.ANY_OPEN)
            .refused("begin 1 1 1 false ! state", "begin 2 16 16 true ! state", "begin 3 4 5 true ! state")
            .at(Stages.FULL).taken("done", "begin 2 1 1 false", "told 0 = 2", "told 1 = 0");
    }

    private static void termsArgumentIsNamedFirst() {
        new Edge(Document.TERMS, "the one named first when several would do", "promise 4")
            .at(Stages.ANY_OPEN)
            .refused("begin 0 1 1 false ! argument", "begin 4 1 1 false ! argument", "begin 2 0 1 false ! argument",
                "begin 2 17 1 false ! argument", "begin 2 1 0 false ! argument", "begin 2 1 17 false ! argument",
                "begin 2 1 1 false ! state");
    }

    private static void promise4ScaleIsOne() {
        // 2 * 2 + 1 = 5 makes 1 more; with the scale 31 it is 155, and makes 19 more.
        String[] scaled = {"begin 2 1 1 false", "scale 31", "level 0 0 2", "square", "done = 0", "last = 1"};
        new Edge(4, "the scale is 1")
            .at(scaled).taken("sample 0 0 0 = 147", "sample 0 8 0 = 128")
            .taken("begin 2 1 1 false", "level 0 0 2", "square", "done = 1", "last = 2", "sample 0 0 0 = 148")
            .taken("begin 2 1 1 false", "scale 31", "begin 2 1 1 false ! state", "level 0 0 2", "square", "done = 1",
                "last = 2", "sample 0 0 0 = 166");
    }

    private static void termsPastsAndVectorsAgain() {
        String[] open = {
            "size 2 1", "begin 3 2 2 false", "vector 0 7 -8", "vector 1 -9 10", "square", "vector 0 0 0", "square",
        };
        String[] moved = Stages.with(open, "done = 1");
        new Edge(Document.TERMS, "Vectors are 0 again with a picture's begin")
            .at(open, moved).taken("told 4 = 7", "told 5 = -8", "told 6 = -9", "told 7 = 10")
            .at(open).refused("begin 3 2 2 false ! state", "begin 4 1 1 false ! argument")
            .at(moved).taken("begin 3 2 2 false", "told 4 = 0", "told 5 = 0", "told 6 = 0", "told 7 = 0")
            .taken("begin 1 1 1 false", "told 4 = 0", "told 5 = 0", "told 6 = 0", "told 7 = 0")
            .refused("begin 3 0 2 false ! argument");
        String[] grown = {
            "begin 1 1 1 false", "itself", "level 0 0 1", "level 4 0 2", "level 5 0 -3", "square", "done = 0",
        };
        new Edge(Document.TERMS, "Pasts are 1024 again with a picture's begin")
            .at(grown).taken("told 8 = 1032", "told 9 = 1040", "told 10 = 1000")
            .taken("begin 1 1 1 false", "told 8 = 1024", "told 9 = 1024", "told 10 = 1024")
            .refused("begin 0 1 1 false ! argument", "begin 1 17 1 false ! argument");
    }

    private static void promise5Scale() {
        new Edge(5, "IllegalArgumentException: q is not 1 to 31")
            .at(new String[] {"begin 2 1 1 false", "scale 7"})
            .taken("scale 1", "level 0 0 2", "square", "done", "last", "sample 0 0 0 = 129")
            .taken("scale 31", "level 0 0 2", "square", "done", "last", "sample 0 0 0 = 147")
            .at(Stages.ALL)
            .refused("scale 0 ! argument", "scale 32 ! argument", "scale -1 ! argument",
                "scale " + LEAST + " ! argument", "scale " + MOST + " ! argument")
            .at(Stages.ANY_OPEN).taken("scale 1", "scale 31");
    }

    private static void promise5NoPictureIsOpen() {
        new Edge(5, "IllegalStateException: no picture is open")
            .at(Stages.NONE_OPEN).refused("scale 1 ! state", "scale 31 ! state", "scale 7 ! state")
            .taken("begin 1 1 1 false", "scale 7")
            .at(Stages.FULL).taken("scale 7", "done", "scale 7 ! state");
    }

    private static void promise5FromTheSquareOn() {
        // The level 2 makes 5 (1 more), with the scale 31 it makes 155 (19 more).
        new Edge(5, "The scale from the square on that is to come")
            .at(new String[] {"size 3 1", "begin 2 1 1 false", "level 0 0 2", "square = 1"})
            .taken("scale 31", "level 0 0 2", "square = 2", "level 0 0 2", "square = 3", "scale 5", "done", "last",
                "sample 0 15 0 = 128", "sample 0 0 0 = 129", "sample 0 16 0 = 147", "sample 0 32 0 = 147")
            .taken("level 0 0 2", "scale 31", "square = 2", "leave 1 = 3", "done", "last", "sample 0 0 0 = 129",
                "sample 0 16 0 = 147")
            // It stays behind squares of each sort, and behind such as are left out.
            .taken("scale 31", "leave 1 = 2", "level 0 0 2", "square = 3", "done", "last", "sample 0 32 0 = 147")
            .taken("scale 31", "itself", "square = 2", "level 0 0 2", "square = 3", "done", "last", "sample 0 32 0 = 147")
            .taken("scale 31", "vector 0 0 0", "square = 2", "level 0 0 2", "square = 3", "done", "last",
                "sample 0 32 0 = 147")
            .taken("scale 31", "matrix 0 0 9", "square = 2", "matrix 1 1 9", "level 0 0 2", "square = 3", "done", "last",
                "sample 0 32 0 = 147")
            .at(new String[] {"size 3 1", "begin 3 1 1 false", "scale 31", "vector 0 0 0", "square = 1"})
            .taken("leave 1 = 2", "vector 1 0 0", "level 0 0 2", "square = 3", "done", "sample 0 32 0 = 147")
            .taken("itself", "square = 2", "vector 1 0 0", "level 0 0 2", "square = 3", "done", "sample 0 32 0 = 147");
    }

    private static void promise6Itself() {
        String[] two = Stages.with(new String[] {"size 2 1", "begin 1 1 1 false"}, Stages.with(
            Stages.flatSquare(128, 128, 128, 50, 50, 50, 50, 50, 50), "itself", "square", "done", "begin 2 1 1 false"));
        new Edge(6, "The square that is to come is one for itself")
            .at(two).taken("itself", "square = 1", "square = 2", "done", "last", "sample 0 0 0 = 128", "sample 1 0 0 = 128",
                "sample 0 16 0 = 50", "sample 2 8 0 = 50")
            .taken("square = 1", "itself", "square = 2", "done", "last", "sample 0 0 0 = 50", "sample 0 16 0 = 128")
            // Its levels count, whether they are told before or behind.
            .taken("level 0 0 2", "itself", "level 1 0 -2", "square = 1", "told 8 = 1024", "square = 2", "done", "last",
                "sample 0 0 0 = 130", "sample 0 8 0 = 128");
    }

    private static void promise6NoPictureIsOpen() {
        new Edge(6, "IllegalStateException: no picture is open")
            .at(Stages.NONE_OPEN).refused("itself ! state")
            .taken("begin 1 1 1 false", "itself", "square = 1").taken("begin 2 1 1 false", "itself", "square = 1")
            .taken("begin 3 1 1 false", "itself", "square = 1")
            .at(Stages.FULL).taken("done", "itself ! state");
    }

    private static void promise6AllSquaresAreThere() {
        new Edge(6, "IllegalStateException: ... all its squares are there")
            .at(Stages.FULL).refused("itself ! state")
            .at(Stages.OPEN_1, Stages.OPEN_2, Stages.OPEN_3).taken("itself", "square = 2", "itself ! state")
            .at(new String[] {"size 4 3", "begin 2 1 1 false", "leave 11 = 11"})
            .taken("itself", "square = 12", "itself ! state", "done = 0");
    }

    private static void promise6VectorWasTold() {
        new Edge(6, "IllegalStateException: ... a vector was told for this one")
            .at(Stages.with(Stages.OPEN_2, "vector 0 0 0"), Stages.with(Stages.OPEN_3, "vector 0 0 0"),
                Stages.with(Stages.OPEN_3, "vector 1 0 0"), Stages.TOLD_2, Stages.TOLD_3)
            .refused("itself ! state").taken("square = 2", "done")
            // Vectors of the square before do not count, nor do levels, nor a vector that was refused.
            .at(Stages.OPEN_2, Stages.OPEN_3).taken("itself", "itself", "square = 2", "done")
            .taken("level 0 0 1", "itself", "level 1 0 1", "square = 2", "done")
            .taken("vector 0 33 0 ! argument", "itself", "square = 2", "done");
    }

    private static void promise7IsTold() {
        new Edge(7, "A vector is told for the square that is to come, forward (0) or backward (1)")
            .at(Stages.with(Stages.flat(10, 110, 10, 110, 1, 2), Stages.with(Stages.flat(20, 120, 20, 120, 3, 4),
                "begin 3 1 1 false")))
            .taken("square ! state", "vector 0 2 0", "told 4 = 2", "told 6 = 0", "square = 1", "done", "sample 0 6 0 = 10",
                "sample 0 7 0 = 110")
            .taken("square ! state", "vector 1 0 -4", "told 5 = 0", "told 7 = -4", "square = 1", "done",
                "sample 0 7 0 = 20", "sample 0 8 0 = 120")
            .taken("vector 0 2 0", "vector 1 -2 0", "told 4 = 2", "told 6 = -2", "square = 1", "done", "sample 0 6 0 = 15",
                "sample 0 7 0 = 65", "sample 0 8 0 = 65", "sample 0 9 0 = 115");
    }

    private static void promise7Direction() {
        new Edge(7, "IllegalArgumentException: another direction")
            .at(Stages.OPEN_3)
            .taken("vector 0 2 3", "told 4 = 5", "told 5 = 1", "told 6 = 4", "told 7 = 5", "square = 2")
            .taken("vector 1 2 3", "told 4 = 3", "told 5 = -2", "told 6 = 6", "told 7 = 8", "square = 2")
            .at(Stages.ALL)
            .refused("vector -1 0 0 ! argument", "vector 2 0 0 ! argument", "vector " + LEAST + " 0 0 ! argument",
                "vector " + MOST + " 0 0 ! argument");
    }

    private static void promise7Reach() {
        Edge edge = new Edge(7, "IllegalArgumentException: ... dx or dy is not -16 r to 16 r");
        int[][] reaches = {{1, 1}, {1, 16}, {16, 1}, {16, 16}, {2, 3}};
        for (int[] r : reaches) {
            edge.at(new String[] {"begin 3 " + r[0] + " " + r[1] + " false"});
            reachOf(edge, 0, 16 * r[0]);
            reachOf(edge, 1, 16 * r[1]);
        }
        // Refused so in each state.
        edge.at(Stages.OPEN_1, Stages.OPEN_2, Stages.TOLD_1, Stages.TOLD_3, Stages.FULL_1, Stages.FULL_3)
            .refused("vector 0 33 0 ! argument", "vector 0 -33 0 ! argument", "vector 0 0 33 ! argument",
                "vector 0 0 -33 ! argument", "vector 1 49 0 ! argument", "vector 1 0 -49 ! argument");
    }

    private static void reachOf(Edge edge, int direction, int most) {
        String vector = "vector " + direction + " ";
        int x = 4 + 2 * direction;
        int y = x + 1;
        edge.taken(vector + most + " 0", "told " + x + " = " + -most, "told " + y + " = 0")
            .taken(vector + "0 " + most, "told " + x + " = 0", "told " + y + " = " + -most)
            .taken(vector + -most + " 0", "told " + x + " = " + -most, "told " + y + " = 0")
            .taken(vector + "0 " + -most, "told " + x + " = 0", "told " + y + " = " + -most)
            .refused(vector + (most + 1) + " 0 ! argument", vector + "0 " + (most + 1) + " ! argument",
                vector + (-most - 1) + " 0 ! argument", vector + "0 " + (-most - 1) + " ! argument",
                vector + LEAST + " 0 ! argument", vector + "0 " + LEAST + " ! argument",
                vector + MOST + " 0 ! argument", vector + "0 " + MOST + " ! argument");
    }

    private static void promise7ReachOfTheLastBegin() {
        new Edge(7, "r as with the last begin(), 1 before")
            .refused("vector 0 16 -16 ! state", "vector 1 -16 16 ! state", "vector 0 17 0 ! argument",
                "vector 0 0 -17 ! argument", "vector 1 0 17 ! argument", "vector 1 -17 0 ! argument")
            // Behind the picture's end, with the reaches 3 and 2 that it began with.
            .at(Stages.CLOSED)
            .refused("vector 0 48 -48 ! state", "vector 1 32 -32 ! state", "vector 0 49 0 ! argument",
                "vector 0 0 -49 ! argument", "vector 1 33 0 ! argument", "vector 1 0 -33 ! argument")
            // A begin that is refused is none.
            .taken("begin 3 17 9 false ! argument", "vector 0 49 0 ! argument", "vector 1 33 0 ! argument")
            .at(Stages.OPEN_3)
            .taken("begin 3 9 9 false ! state", "vector 0 33 0 ! argument", "vector 1 49 0 ! argument", "vector 0 32 0",
                "vector 1 48 0");
    }

    private static void promise7NoPictureIsOpen() {
        new Edge(7, "IllegalStateException: no picture is open")
            .at(Stages.NONE_OPEN).refused("vector 0 0 0 ! state", "vector 1 0 0 ! state")
            .taken("begin 2 1 1 false", "vector 0 0 0").taken("begin 3 1 1 false", "vector 1 0 0")
            .at(Stages.FULL).taken("done", "vector 0 0 0 ! state", "vector 1 0 0 ! state");
    }

    private static void promise7AllSquaresAreThere() {
        new Edge(7, "IllegalStateException: ... all its squares are there")
            .at(Stages.FULL).refused("vector 0 0 0 ! state", "vector 0 1 1 ! state", "vector 1 1 1 ! state")
            .at(Stages.OPEN_2, Stages.OPEN_3)
            .taken("vector 0 1 1", "told 4 = 4", "told 5 = -1", "square = 2", "vector 0 1 1 ! state", "told 4 = 4");
    }

    private static void promise7SquareForItself() {
        new Edge(7, "IllegalStateException: ... the square is one for itself")
            .at(Stages.with(Stages.OPEN_2, "itself"), Stages.with(Stages.OPEN_3, "itself"))
            .refused("vector 0 0 0 ! state", "vector 0 1 1 ! state")
            .at(Stages.with(Stages.OPEN_3, "itself")).refused("vector 1 1 1 ! state")
            // The square behind one for itself may have a vector again.
            .at(new String[] {"size 2 1", "begin 3 1 1 false", "itself", "square = 1"})
            .taken("vector 1 2 3", "told 6 = 2", "told 7 = 3", "square = 2");
    }

    private static void promise7Kinds() {
        new Edge(7, "IllegalStateException: ... the kind is 1")
            .at(Stages.OPEN_1, Stages.TOLD_1, Stages.FULL_1, new String[] {"begin 1 1 1 false"})
            .refused("vector 0 0 0 ! state", "vector 1 0 0 ! state", "vector 0 1 -1 ! state")
            .at(new String[] {"begin 2 1 1 false"}).taken("vector 0 1 -1", "told 4 = 1", "told 5 = -1");
        new Edge(7, "IllegalStateException: ... it is 2 and the direction 1")
            .at(Stages.OPEN_2, Stages.TOLD_2, new String[] {"begin 2 1 1 false"})
            .refused("vector 1 0 0 ! state", "vector 1 1 1 ! state").taken("vector 0 1 1", "square")
            .at(Stages.OPEN_3).taken("vector 1 0 0", "square = 2");
        new Edge(Document.TERMS, "the one named first when several would do", "promise 7")
            .at(new String[] {"begin 1 1 1 false"}).refused("vector 2 0 0 ! argument", "vector 0 17 0 ! argument")
            .at(new String[] {"begin 2 1 2 false"}).refused("vector 1 33 0 ! argument", "vector 1 32 0 ! state");
    }

    private static void termsGoesRound() {
        new Edge(Document.TERMS, "such that it is -16 r .. 16 r - 1")
            .at(new String[] {"begin 3 1 2 false", "vector 0 14 -15", "vector 1 -31 30"})
            .taken("vector 0 1 -1", "told 4 = 15", "told 5 = -16").taken("vector 0 2 -2", "told 4 = -16", "told 5 = 15")
            .taken("vector 0 16 -16", "told 4 = -2", "told 5 = 1").taken("vector 1 -1 1", "told 6 = -32", "told 7 = 31")
            .taken("vector 1 -2 2", "told 6 = 31", "told 7 = -32").taken("vector 1 -32 32", "told 6 = 1", "told 7 = -2");
        new Edge(Document.TERMS, "such that it is -16 r .. 16 r - 1", "with the largest reach")
            .at(new String[] {"begin 3 16 16 false", "vector 0 254 -255", "vector 1 -255 254"})
            .taken("vector 0 1 -1", "told 4 = 255", "told 5 = -256").taken("vector 0 2 -2", "told 4 = -256", "told 5 = 255")
            .taken("vector 1 -1 1", "told 6 = -256", "told 7 = 255").taken("vector 1 -2 2", "told 6 = 255", "told 7 = -256")
            .taken("vector 0 256 -256", "told 4 = -2", "told 5 = 1")
            .taken("vector 1 -256 256", "told 6 = 1", "told 7 = -2");
        // Whole pictures use the vector twice, but it goes round as it is told.
        new Edge(Document.TERMS, "If the picture is WHOLE it counts twice when it is used")
            .at(new String[] {"begin 2 1 1 true"})
            .taken("vector 0 15 -16", "told 4 = 15", "told 5 = -16", "vector 0 1 -1", "told 4 = -16", "told 5 = 15");
    }

    private static void termsVectorsAreZeroAgain() {
        new Edge(Document.TERMS, "Vectors are 0 again ... with a square for itself")
            .at(Stages.with(Stages.OPEN_3, "itself"))
            .taken("square = 2", "told 4 = 0", "told 5 = 0", "told 6 = 0", "told 7 = 0")
            // When it is made, and not yet when it is told that it is one.
            .taken("told 4 = 3", "told 5 = -2", "told 6 = 4", "told 7 = 5")
            .at(Stages.OPEN_3).taken("vector 0 0 0", "square = 2", "told 4 = 3", "told 5 = -2", "told 6 = 4", "told 7 = 5");
        new Edge(Document.TERMS, "in a picture of the kind 2 also with a square for which none is told")
            .at(Stages.OPEN_2).taken("told 4 = 3", "told 5 = -2", "square = 2", "told 4 = 0", "told 5 = 0")
            .taken("vector 0 0 0", "square = 2", "told 4 = 3", "told 5 = -2")
            .at(new String[] {"size 3 1", "begin 3 1 1 false", "vector 0 3 4", "square = 1", "vector 1 1 1", "square = 2"})
            .taken("told 4 = 3", "told 5 = 4", "told 6 = 1", "told 7 = 1");
    }

    private static void promise8IsTold() {
        new Edge(8, "A level of the square that is to come")
            .at(new String[] {"size 3 1", "begin 1 1 1 false", "itself", "level 4 0 1", "square = 1", "itself"})
            .taken("level 0 0 10", "level 1 0 10", "level 5 0 -10", "square = 2", "told 8 = 1184", "told 9 = 1032",
                "told 10 = 944", "itself", "square = 3", "done", "last", "sample 0 15 0 = 128", "sample 0 16 0 = 138",
                "sample 0 24 0 = 148", "sample 0 32 0 = 148", "sample 2 7 0 = 128", "sample 2 8 0 = 118");
        // With each kind, before or behind what else is told for the square.
        new Edge(8, "A level of the square that is to come", "with each kind")
            .at(new String[] {"begin 2 1 1 false", "scale 31"})
            .taken("level 0 0 2", "vector 0 0 0", "square", "done", "last", "sample 0 0 0 = 147")
            .taken("vector 0 0 0", "level 0 0 2", "square", "done", "last", "sample 0 0 0 = 147")
            .at(new String[] {"begin 3 1 1 false", "scale 31"})
            .taken("level 0 0 2", "vector 1 0 0", "square", "done", "sample 0 0 0 = 147")
            .taken("vector 1 0 0", "level 0 0 2", "vector 0 0 0", "square", "done", "sample 0 0 0 = 147")
            .taken("level 0 0 2", "itself", "square", "done", "sample 0 0 0 = 130");
    }

    private static void promise8Block() {
        new Edge(8, "IllegalArgumentException: block is not 0 to 5")
            .at(new String[] {"begin 1 1 1 false", "itself"})
            .taken("level 0 0 5", "square", "told 8 = 1064", "told 9 = 1024", "told 10 = 1024")
            .taken("level 5 0 5", "square", "told 8 = 1024", "told 9 = 1024", "told 10 = 1064")
            .at(Stages.WITH_ROOM).taken("level 0 0 5", "level 5 0 5")
            .at(Stages.ALL)
            .refused("level -1 0 5 ! argument", "level 6 0 5 ! argument", "level " + LEAST + " 0 5 ! argument",
                "level " + MOST + " 0 5 ! argument");
    }

    private static void promise8Place() {
        // The level 128 makes 256, made 255: at row 7, column 7 it is 2 more or less in the corners.
        new Edge(8, "IllegalArgumentException: ... i not 0 to 63")
            .at(new String[] {"begin 1 1 1 false", "itself"})
            .taken("level 4 0 9", "square", "told 9 = 1096", "done", "last", "sample 1 7 7 = 137", "sample 1 0 7 = 137")
            .taken("level 4 63 128", "square", "told 9 = 1024", "done", "last", "sample 1 7 7 = 130", "sample 1 0 7 = 126")
            .at(Stages.WITH_ROOM).taken("level 0 0 5", "level 0 63 5")
            .at(Stages.ALL)
            .refused("level 0 -1 5 ! argument", "level 0 64 5 ! argument", "level 5 -1 5 ! argument",
                "level 5 64 5 ! argument", "level 2 " + LEAST + " 5 ! argument", "level 2 " + MOST + " 5 ! argument");
    }

    private static void promise8Level() {
        // At row 0, column 1 the levels 255 and -255 make 509 and -509: 507 would make 202 and 145, 511 217 and 39.
        new Edge(8, "IllegalArgumentException: ... v not -255 to 255")
            .at(new String[] {"begin 1 1 1 false", "itself", "level 0 1 7"})
            .taken("level 0 1 255", "square", "done", "last", "sample 0 0 0 = 216", "sample 0 1 0 = 203",
                "sample 0 3 0 = 146", "sample 0 7 0 = 40")
            .taken("level 0 1 -255", "square", "done", "last", "sample 0 0 0 = 40", "sample 0 1 0 = 53",
                "sample 0 4 0 = 146", "sample 0 7 0 = 216")
            .at(Stages.WITH_ROOM).taken("level 0 0 255", "level 5 63 -255")
            .at(Stages.ALL)
            .refused("level 0 0 256 ! argument", "level 0 0 -256 ! argument", "level 5 63 256 ! argument",
                "level 5 63 -256 ! argument", "level 0 1 " + LEAST + " ! argument", "level 0 1 " + MOST + " ! argument");
    }

    private static void promise8NoPictureIsOpen() {
        new Edge(8, "IllegalStateException: no picture is open")
            .at(Stages.NONE_OPEN).refused("level 0 0 0 ! state", "level 5 63 -255 ! state")
            // What was refused before is not there when the picture is open.
            .taken("level 0 0 9 ! state", "begin 1 1 1 false", "itself", "square = 1", "told 8 = 1024")
            .taken("begin 1 1 1 false", "level 0 0 9", "itself", "square = 1", "told 8 = 1096")
            .at(Stages.FULL).taken("done", "level 0 0 0 ! state");
    }

    private static void promise8AllSquaresAreThere() {
        new Edge(8, "IllegalStateException: ... all its squares are there")
            .at(Stages.FULL).refused("level 0 0 0 ! state", "level 3 9 50 ! state")
            // Nor does it count for the next picture.
            .taken("level 0 0 9 ! state", "done", "begin 1 1 1 false", "itself", "square = 1", "told 8 = 1024")
            .at(Stages.OPEN_1, Stages.OPEN_2, Stages.OPEN_3).taken("level 3 9 50", "itself", "square = 2");
    }

    private static void termsZeroAtFirst() {
        new Edge(Document.TERMS, "of each block of a square 64 numbers, 0 at first")
            .at(new String[] {"begin 1 1 1 false", "itself"})
            .taken("square", "told 8 = 1024", "told 9 = 1024", "told 10 = 1024", "done", "last", "sample 0 0 0 = 128",
                "sample 0 15 15 = 128", "sample 1 0 0 = 128", "sample 2 7 7 = 128")
            .same(new String[] {}, new String[] {"level 0 0 0"}).same(new String[] {}, new String[] {"level 5 63 0"})
            .same(new String[] {"level 2 9 40"}, new String[] {"level 2 9 -7", "level 2 9 40"});
    }
}
