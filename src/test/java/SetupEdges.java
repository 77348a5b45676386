/** Promises 1 to 3: a new object, size, matrix. */
final class SetupEdges {
    private static final String LEAST = "-2147483648";
    private static final String MOST = "2147483647";

    private SetupEdges() {
    }

    static void all() {
        promise1NewIsAsSizeOneOne();
        promise1HasOneSquare();
        promise2SquaresOfPictures();
        promise2Width();
        promise2Height();
        promise2WidthAndHeight();
        promise2NoPictureIsOpen();
        promise2NoneWasDoneOrShown();
        promise2AllBeginsAnew();
        promise2Matrices();
        promise3Which();
        promise3Place();
        promise3Number();
        promise3RowsOfEight();
        promise3HasNoState();
        promise3NumbersStay();
    }

    private static void promise1NewIsAsSizeOneOne() {
        new Edge(1, "As size(1, 1)")
            .same(new String[] {}, new String[] {"size 1 1"})
            .taken("told 0 = 0", "told 1 = 0", "told 2 = 0", "told 3 = 0", "told 4 = 0", "told 5 = 0", "told 6 = 0",
                "told 7 = 0", "told 8 = 1024", "told 9 = 1024", "told 10 = 1024", "last = 0",
                "matrix 0 0 1 = 8", "matrix 0 1 1 = 16", "matrix 1 0 1 = 16")
            .refused("sample 0 0 0 ! state", "colour 0 0 ! state", "light 1 0 ! state", "keep ! state",
                "error ! state", "done ! state", "square ! state");
    }

    private static void promise1HasOneSquare() {
        new Edge(1, "As size(1, 1)", "the first square is the last")
            .at(new String[] {"begin 2 1 1 false"}).taken("leave 1 = 1", "told 1 = 1").refused("leave 2 ! argument")
            .at(new String[] {"begin 2 1 1 false", "square = 1"}).taken("done = 0").refused("square ! state")
            .at(new String[] {"begin 2 1 1 false", "square = 1", "done = 0", "last = 1"})
            .taken("sample 0 15 15 = 128", "sample 1 7 7 = 128", "sample 2 7 7 = 128", "colour 15 15 = 8421504")
            .refused("sample 0 16 15 ! index", "sample 0 15 16 ! index", "sample 1 8 7 ! index",
                "sample 2 7 8 ! index", "colour 16 15 ! index");
    }

    /** Pictures that have so many squares, and no more. */
    private static String[] hasSize(int w, int h) {
        int squares = w * h;
        return new String[] {
            "size " + w + " " + h, "told 0 = 0", "begin 2 1 1 false", "leave " + (squares + 1) + " ! argument",
            "leave " + squares + " = " + squares, "square ! state", "done = 0", "last = 1",
            "sample 0 " + (16 * w - 1) + " " + (16 * h - 1) + " = 128",
            "sample 0 " + 16 * w + " " + (16 * h - 1) + " ! index",
            "sample 0 " + (16 * w - 1) + " " + 16 * h + " ! index",
            "sample 1 " + (8 * w - 1) + " " + (8 * h - 1) + " = 128", "sample 1 " + 8 * w + " 0 ! index",
            "sample 2 " + (8 * w - 1) + " " + (8 * h - 1) + " = 128", "sample 2 0 " + 8 * h + " ! index",
        };
    }

    private static void promise2SquaresOfPictures() {
        Edge edge = new Edge(2, "Pictures have w by h squares");
        for (int w = 1; w <= 4; w++) {
            for (int h = 1; h <= 3; h++) {
                edge.taken(hasSize(w, h));
            }
        }
    }

    private static void promise2Width() {
        new Edge(2, "IllegalArgumentException: w is not 1 to 4")
            .at(Stages.ALL).taken(hasSize(1, 2)).taken(hasSize(4, 2))
            .refused("size 0 2 ! argument", "size 5 2 ! argument", "size -1 2 ! argument",
                "size " + LEAST + " 2 ! argument", "size " + MOST + " 2 ! argument");
    }

    private static void promise2Height() {
        new Edge(2, "IllegalArgumentException: ... h not 1 to 3")
            .at(Stages.ALL).taken(hasSize(2, 1)).taken(hasSize(2, 3))
            .refused("size 2 0 ! argument", "size 2 4 ! argument", "size 2 -1 ! argument",
                "size 2 " + LEAST + " ! argument", "size 2 " + MOST + " ! argument");
    }

    private static void promise2WidthAndHeight() {
        new Edge(2, "IllegalArgumentException: w is not 1 to 4, or h not 1 to 3")
            .taken(hasSize(1, 1)).taken(hasSize(4, 1)).taken(hasSize(1, 3)).taken(hasSize(4, 3)).taken(hasSize(3, 3))
            .refused("size 3 4 ! argument", "size 0 0 ! argument", "size 5 4 ! argument", "size 0 1 ! argument",
                "size 1 0 ! argument", "size 5 3 ! argument", "size 4 4 ! argument");
    }

    private static void promise2NoPictureIsOpen() {
        new Edge(2, "no picture is open")
            .at(Stages.ANY_OPEN)
            .taken("size 2 1", "told 0 = 0", "told 1 = 0", "scale 1 ! state", "itself ! state", "vector 0 0 0 ! state",
                "level 0 0 0 ! state", "square ! state", "leave 1 ! argument", "done ! state", "last = 0",
                "begin 1 1 1 false", "told 0 = 1", "told 1 = 0")
            .refused("begin 1 1 1 false ! state", "last ! state");
    }

    private static void promise2NoneWasDoneOrShown() {
        new Edge(2, "none was done or shown")
            .at(Stages.CLOSED, Stages.TOLD_3, Stages.FULL_2)
            .taken("told 2 = 2", "told 3 = 1", "sample 0 0 0", "error", "size 2 1", "told 2 = 0", "told 3 = 0",
                "sample 0 0 0 ! state", "colour 0 0 ! state", "light 1 0 ! state", "keep ! state", "error ! state",
                // The new reference does not wait any more.
                "last = 0", "begin 2 1 1 false", "leave 2", "done = 0", "told 2 = 1", "last = 1", "told 3 = 1",
                // What was kept is not kept any more.
                "error ! state", "keep", "error = 0.0");
    }

    private static void promise2AllBeginsAnew() {
        new Edge(2, "all begins anew").at(Stages.ALL).sameAsNew("size 1 1").sameAsNew("size 2 1");
        new Edge(2, "all begins anew", "from the largest size to the smallest and back")
            .at(new String[] {"size 4 3", "begin 1 1 1 false", "itself", "level 0 0 99", "square", "itself", "square"})
            .sameAsNew("size 1 1").sameAsNew("size 4 3").sameAsNew("size 3 2");
    }

    private static String[] allMatrices(int first, int others, int next) {
        String[] lines = new String[128];
        for (int i = 0; i < 64; i++) {
            lines[i] = "matrix 0 " + i + " " + next + " = " + (i == 0 ? first : others);
            lines[64 + i] = "matrix 1 " + i + " " + next + " = " + others;
        }
        return lines;
    }

    private static void promise2Matrices() {
        new Edge(2, "matrices have 16 everywhere, matrix 0 has 8 at its first place")
            .taken(allMatrices(8, 16, 99))
            .at(allMatrices(8, 16, 99)).taken(allMatrices(99, 99, 98))
            .taken(Stages.with(new String[] {"size 3 3"}, allMatrices(8, 16, 7)));
    }

    private static void promise3Which() {
        new Edge(3, "IllegalArgumentException: there is no such matrix")
            .at(Stages.ALL)
            .taken("matrix 0 9 33 = 16", "matrix 1 9 44 = 16", "matrix 0 9 1 = 33", "matrix 1 9 1 = 44")
            .refused("matrix -1 9 33 ! argument", "matrix 2 9 33 ! argument", "matrix " + LEAST + " 9 33 ! argument",
                "matrix " + MOST + " 9 33 ! argument");
    }

    private static void promise3Place() {
        new Edge(3, "IllegalArgumentException: there is no such ... place")
            .taken("matrix 0 0 33 = 8", "matrix 0 63 34 = 16", "matrix 1 0 35 = 16", "matrix 1 63 36 = 16",
                "matrix 0 0 1 = 33", "matrix 0 63 1 = 34", "matrix 1 0 1 = 35", "matrix 1 63 1 = 36")
            .at(Stages.ALL)
            .taken("matrix 0 0 33 = 8", "matrix 0 63 34 = 16", "matrix 1 63 35 = 16", "matrix 0 63 1 = 34")
            .refused("matrix 0 -1 33 ! argument", "matrix 0 64 33 ! argument", "matrix 1 -1 33 ! argument",
                "matrix 1 64 33 ! argument", "matrix 0 " + LEAST + " 33 ! argument",
                "matrix 1 " + MOST + " 33 ! argument");
    }

    private static void promise3Number() {
        new Edge(3, "IllegalArgumentException: ... v is not 1 to 255")
            .at(Stages.ALL)
            .taken("matrix 0 5 1 = 16", "matrix 0 5 255 = 1", "matrix 0 5 1 = 255", "matrix 1 5 255 = 16",
                "matrix 1 5 1 = 255", "matrix 1 5 16 = 1")
            .refused("matrix 0 5 0 ! argument", "matrix 0 5 256 ! argument", "matrix 1 5 0 ! argument",
                "matrix 1 5 256 ! argument", "matrix 0 5 -1 ! argument", "matrix 0 5 " + LEAST + " ! argument",
                "matrix 1 5 " + MOST + " ! argument");
    }

    private static void promise3RowsOfEight() {
        // Place 28 of the zigzag is row 0, column 7, place 2 is row 1, column 0. The level 20 makes 40, made 39;
        // with the number 255 it makes 637.
        String[] end = {"itself", "square = 1", "done = 0", "last = 1"};
        String[] last = Stages.with(new String[] {"begin 1 1 1 false", "level 0 28 20"}, end);
        String[] next = Stages.with(new String[] {"begin 1 1 1 false", "level 0 2 20"}, end);
        new Edge(3, "(0 or 1) at row i / 8, column i modulo 8")
            .at(Stages.with(new String[] {"matrix 0 7 255"}, last)).taken("sample 0 0 0 = 150")
            .at(Stages.with(new String[] {"matrix 0 8 255"}, last)).taken("sample 0 0 0 = 129")
            .at(Stages.with(new String[] {"matrix 0 8 255"}, next)).taken("sample 0 0 0 = 238")
            .at(Stages.with(new String[] {"matrix 0 7 255"}, next)).taken("sample 0 0 0 = 135")
            // The other matrix has places of its own, which do not count here.
            .at(Stages.with(new String[] {"matrix 1 7 255"}, last)).taken("sample 0 0 0 = 129");
    }

    private static void promise3HasNoState() {
        // The number may change while a picture is open: it counts as it stands when the square is made.
        new Edge(3, "The number of a matrix ... becomes v. Answers what it was")
            .at(new String[] {"begin 1 1 1 false", "itself", "level 0 28 20"})
            .taken("matrix 0 7 255 = 16", "square = 1", "matrix 0 7 16 = 255", "done = 0", "last = 1",
                "sample 0 0 0 = 150")
            .taken("matrix 0 7 256 ! argument", "matrix 0 64 255 ! argument", "matrix 2 7 255 ! argument",
                "square = 1", "done = 0", "last = 1", "sample 0 0 0 = 129");
    }

    private static void promise3NumbersStay() {
        // Whatever comes behind, but for size().
        new Edge(3, "The number of a matrix ... becomes v", "and stays so")
            .at(allMatrices(8, 16, 99)).taken(Stages.with(new String[] {
                "begin 1 2 2 true", "scale 9", "itself", "level 0 5 9", "square", "done", "last",
                "begin 2 2 2 false", "vector 0 1 1", "level 0 5 9", "square", "done", "begin 2 1 1 false", "leave 1", "done",
                "begin 3 2 2 false", "vector 1 1 1", "square", "done", "begin 3 1 1 false", "itself", "square", "done",
                "keep", "light 1 1", "error", "sample 0 0 0", "colour 0 0", "told 0", "size 5 1 ! argument",
            }, allMatrices(99, 99, 98)));
    }
}
