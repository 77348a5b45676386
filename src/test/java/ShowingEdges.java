/** Promises 11 to 13, 16 and 18, and what Terms says of pictures that are shown: done, last, sample, keep, told. */
final class ShowingEdges {
    private static final String LEAST = "-2147483648";
    private static final String MOST = "2147483647";
    private static final String[] FIRST = Stages.flat(10, 10, 10, 10, 1, 2);
    private static final String[] SECOND = Stages.with(FIRST, Stages.flat(20, 20, 20, 20, 3, 4));

    private ShowingEdges() {
    }

    static void all() {
        promise11IsDone();
        promise11NoneIsOpen();
        promise11SquaresAreMissing();
        promise11AnswersHowManyWereShown();
        termsIfItCameOfAPicture();
        termsEachIsShownOnce();
        promise12NoPictureComes();
        promise12PictureIsOpen();
        promise12IfItCameOfAPicture();
        promise12WasNotYetShown();
        promise13OfThePictureShownLast();
        promise13NoneWasShown();
        promise13Planes();
        promise13Places();
        promise16NoneWasShown();
        promise16AsItIsNow();
        promise18VectorsAndPasts();
        promise18What();
        promise18WithoutAPicture();
        promise18Counts();
        allCallsOfAnObject();
    }

    private static void promise11IsDone() {
        new Edge(11, "The picture is done")
            .at(Stages.FULL_1).taken("told 0 = 1", "told 2 = 2", "done", "told 0 = 0", "told 1 = 0", "told 2 = 3")
            .at(Stages.FULL_2).taken("told 0 = 2", "told 2 = 2", "done", "told 0 = 0", "told 1 = 0", "told 2 = 3")
            .at(Stages.FULL_3).taken("told 0 = 3", "told 2 = 2", "done", "told 0 = 0", "told 1 = 0", "told 2 = 3",
                // Vectors and pasts stay as they are until something changes them.
                "told 4 = 4", "told 5 = -1", "told 6 = 4", "told 7 = 5", "begin 1 1 1 false", "told 0 = 1");
    }

    private static void promise11NoneIsOpen() {
        new Edge(11, "IllegalStateException: none is open")
            .at(Stages.NONE_OPEN).refused("done ! state")
            .at(Stages.NEW).taken("done ! state", "begin 2 1 1 false", "square", "done = 0", "done ! state")
            .at(Stages.FULL).taken("done", "told 0 = 0", "done ! state", "told 2 = 3");
    }

    private static void promise11SquaresAreMissing() {
        new Edge(11, "IllegalStateException: ... squares are missing")
            .at(Stages.OPEN_1, Stages.OPEN_2, Stages.OPEN_3, Stages.TOLD_1, Stages.TOLD_2, Stages.TOLD_3)
            .refused("done ! state")
            .at(Stages.TOLD_1, Stages.TOLD_2, Stages.TOLD_3).taken("square = 2", "done = 2")
            .at(new String[] {"size 4 3", "begin 2 1 1 false"}).refused("done ! state")
            .at(new String[] {"size 4 3", "begin 2 1 1 false", "leave 11 = 11"}).refused("done ! state")
            .taken("leave 1 = 12", "done = 0", "told 2 = 1").taken("square = 12", "done = 0", "told 2 = 1");
    }

    private static void promise11AnswersHowManyWereShown() {
        new Edge(11, "Answers how many were shown so far")
            .taken("begin 2 1 1 false", "square", "done = 0", "begin 2 1 1 false", "square", "done = 1",
                "begin 3 1 1 false", "itself", "square", "done = 2", "begin 3 1 1 false", "itself", "square", "done = 3",
                "begin 1 1 1 false", "itself", "square", "done = 4", "told 2 = 5", "told 3 = 4", "last = 5")
            .taken("begin 3 1 1 false", "itself", "square", "done = 1", "told 2 = 1");
    }

    private static void termsIfItCameOfAPicture() {
        new Edge(Document.TERMS, "of the others, the one that was the new reference before, if it came of a picture")
            // Nothing is shown with the first one, whichever of the two kinds it has.
            .at(FIRST).taken("told 2 = 1", "told 3 = 0").refused("sample 0 0 0 ! state", "keep ! state")
            .at(new String[] {"begin 2 1 1 false", "square", "done = 0"}).refused("sample 0 0 0 ! state")
            .at(SECOND).taken("told 3 = 1", "sample 0 0 0 = 10", "sample 1 0 0 = 1", "sample 2 7 7 = 2")
            // Kind 3 shows itself at once, and leaves the new reference waiting.
            .at(Stages.with(FIRST, "begin 3 1 1 false", "itself", "square", "done = 1"))
            .taken("sample 0 0 0 = 128", "begin 2 1 1 false", "square", "sample 0 0 0 = 128", "done = 2",
                "sample 0 0 0 = 10")
            .at(new String[] {"begin 3 1 1 false", "itself", "square", "done = 1"})
            .taken("begin 2 1 1 false", "square", "done = 1", "told 3 = 1", "last = 2");
    }

    private static void termsEachIsShownOnce() {
        new Edge(Document.TERMS, "(each is shown once)")
            // Shown by last() already, the reference is not shown again when the next picture is done.
            .at(Stages.with(FIRST, "last = 1"))
            .taken(Stages.with(new String[] {"light 0 77"}, Stages.with(Stages.flat(20, 20, 20, 20, 3, 4),
                "told 3 = 1", "sample 0 0 0 = 77", "last = 2", "sample 0 0 0 = 20", "last = 2")))
            .at(FIRST)
            .taken(Stages.with(new String[] {"told 3 = 0"}, Stages.with(Stages.flat(20, 20, 20, 20, 3, 4),
                "told 3 = 1", "sample 0 0 0 = 10", "last = 2", "sample 0 0 0 = 20", "last = 2")))
            // Nor is it shown again behind pictures of the kind 3.
            .at(Stages.with(SECOND, "begin 3 1 1 false", "itself", "square", "done = 2", "last = 3", "begin 3 1 1 false",
                "itself", "square", "done = 4"))
            .taken("sample 0 0 0 = 128", "last = 4", "sample 0 0 0 = 128", "begin 3 1 1 false", "itself", "square",
                "done = 5", "begin 2 1 1 false", "square", "done = 5", "last = 6", "sample 0 0 0 = 20");
    }

    private static void promise12NoPictureComes() {
        String[] moved = Stages.with(SECOND, "keep", "matrix 0 5 77", "begin 2 2 1 false", "vector 0 7 -8", "square", "done = 2");
        String[] grown = Stages.with(FIRST, "begin 1 1 1 false", "itself", "level 0 0 1", "level 4 0 2", "level 5 0 3",
            "square", "done = 1");
        new Edge(12, "No picture comes any more: the new reference is shown, ... Answers as done()")
            .at(SECOND).taken("told 3 = 1", "last = 2", "told 3 = 2", "sample 0 0 0 = 20", "sample 1 0 0 = 3")
            // Nothing else changes.
            .at(moved).taken("last = 3", "told 0 = 0", "told 1 = 0", "told 2 = 3", "told 4 = 7", "told 5 = -8", "told 6 = 0",
                "told 7 = 0", "matrix 0 5 16 = 77", "error = 100.0", "vector 0 32 0 ! state", "vector 0 33 0 ! argument")
            .at(grown).taken("last = 2", "told 8 = 1032", "told 9 = 1040", "told 10 = 1048");
    }

    private static void promise12PictureIsOpen() {
        new Edge(12, "IllegalStateException: a picture is open")
            .at(Stages.ANY_OPEN).refused("last ! state")
            .at(new String[] {"begin 2 1 1 false"}, Stages.with(FIRST, "begin 1 1 1 false")).refused("last ! state")
            .at(Stages.CLOSED).taken("last = 2", "told 3 = 2")
            .at(Stages.FULL_1, Stages.FULL_2).taken("done = 2", "last = 3").at(Stages.FULL_3).taken("done = 2", "last = 3");
    }

    private static void promise12IfItCameOfAPicture() {
        new Edge(12, "the new reference is shown, if it came of a picture")
            .taken("last = 0", "last = 0", "told 3 = 0", "sample 0 0 0 ! state", "told 2 = 0")
            .same(new String[] {}, new String[] {"last"})
            .at(FIRST).taken("last = 1", "told 3 = 1", "sample 0 0 0 = 10", "sample 2 0 0 = 2", "told 2 = 1")
            // Behind one of the kind 3 alone there is none, and what was shown stays.
            .at(new String[] {"begin 3 1 1 false", "itself", "level 0 0 9", "square", "done = 1"})
            .taken("last = 1", "told 3 = 1", "sample 0 0 0 = 137").same(new String[] {}, new String[] {"last"});
    }

    private static void promise12WasNotYetShown() {
        new Edge(12, "if it came of a picture and was not yet")
            .at(Stages.with(SECOND, "last = 2")).taken("sample 0 0 0 = 20", "last = 2", "told 3 = 2")
            .same(new String[] {}, new String[] {"last"}).same(new String[] {"light 0 5"}, new String[] {"light 0 5", "last"})
            .at(SECOND).taken("last = 2", "last = 2", "sample 0 0 0 = 20")
            // Pictures may come behind it all the same.
            .at(Stages.with(SECOND, "last = 2", "begin 2 1 1 false", "square", "done = 2")).taken("last = 3", "last = 3");
    }

    private static void promise13OfThePictureShownLast() {
        new Edge(13, "A sample of the picture that was shown last")
            .at(SECOND).taken("sample 0 0 0 = 10", "sample 1 0 0 = 1", "sample 2 0 0 = 2")
            .at(Stages.with(SECOND, "begin 3 1 1 false", "itself", "square"))
            .taken("sample 0 0 0 = 10", "done", "sample 0 0 0 = 128", "sample 1 0 0 = 128", "last", "sample 0 0 0 = 20",
                "sample 1 7 7 = 3", "sample 2 7 7 = 4")
            // To look at it changes nothing.
            .at(Stages.CLOSED, Stages.OPEN_2, Stages.TOLD_3, Stages.FULL_1)
            .same(new String[] {}, new String[] {"sample 0 0 0", "sample 1 15 7", "sample 2 3 3"});
    }

    private static void promise13NoneWasShown() {
        new Edge(13, "IllegalStateException: none was")
            .at(Stages.NEW, FIRST, new String[] {"begin 3 1 1 false", "itself", "square"}, Stages.with(SECOND, "size 1 1"))
            .refused("sample 0 0 0 ! state", "sample 2 7 7 ! state")
            // Named first, also where there is no such sample.
            .refused("sample -1 0 0 ! state", "sample 3 0 0 ! state", "sample 0 -1 0 ! state", "sample 0 16 0 ! state",
                "sample 0 0 -1 ! state", "sample 0 0 16 ! state")
            .at(Stages.with(FIRST, "last")).taken("sample 0 0 0 = 10", "sample 2 7 7 = 2")
            .at(SECOND).taken("sample 0 0 0 = 10", "sample 2 7 7 = 2")
            .at(new String[] {"begin 3 1 1 false", "itself", "square", "done"}).taken("sample 0 0 0 = 128");
    }

    private static void promise13Planes() {
        new Edge(13, "IndexOutOfBoundsException: there is no such sample", "the plane")
            .at(SECOND, Stages.with(SECOND, "begin 2 1 1 false"))
            .taken("sample 0 0 0 = 10", "sample 1 0 0 = 1", "sample 2 0 0 = 2")
            .refused("sample -1 0 0 ! index", "sample 3 0 0 ! index", "sample " + LEAST + " 0 0 ! index",
                "sample " + MOST + " 0 0 ! index");
    }

    private static void promise13Places() {
        Edge edge = new Edge(13, "IndexOutOfBoundsException: there is no such sample", "x and y");
        for (int w = 1; w <= 4; w++) {
            for (int h = 1; h <= 3; h++) {
                edge.at(new String[] {"size " + w + " " + h, "begin 2 1 1 false", "leave " + w * h, "done", "last"});
                placesOf(edge, 0, 16 * w, 16 * h);
                placesOf(edge, 1, 8 * w, 8 * h);
                placesOf(edge, 2, 8 * w, 8 * h);
            }
        }
        edge.at(Stages.CLOSED).refused("sample 0 32 15 ! index", "sample 0 31 16 ! index", "sample 0 -1 15 ! index",
            "sample 0 31 -1 ! index", "sample 1 16 7 ! index", "sample 2 15 8 ! index", "sample 0 " + LEAST + " 0 ! index",
            "sample 0 0 " + LEAST + " ! index", "sample 0 " + MOST + " 0 ! index", "sample 0 0 " + MOST + " ! index");
    }

    private static void placesOf(Edge edge, int plane, int width, int height) {
        String sample = "sample " + plane + " ";
        edge.taken(sample + "0 0 = 128", sample + (width - 1) + " 0 = 128", sample + "0 " + (height - 1) + " = 128",
            sample + (width - 1) + " " + (height - 1) + " = 128",
            sample + "-1 0 ! index", sample + "0 -1 ! index", sample + width + " 0 ! index",
            sample + "0 " + height + " ! index", sample + (width - 1) + " " + height + " ! index",
            sample + width + " " + (height - 1) + " ! index");
    }

    private static void promise16NoneWasShown() {
        new Edge(16, "IllegalStateException: none was")
            .at(Stages.NEW, FIRST, Stages.with(SECOND, "keep", "size 1 1"),
                new String[] {"begin 3 1 1 false", "itself", "square"})
            .refused("keep ! state")
            .at(Stages.with(FIRST, "last"), SECOND, Stages.with(SECOND, "begin 1 1 1 false"))
            .taken("keep", "error = 0.0", "keep", "error = 0.0")
            .at(new String[] {"begin 3 1 1 false", "itself", "square", "done"}).taken("keep", "error = 0.0");
    }

    private static void promise16AsItIsNow() {
        new Edge(16, "The picture that was shown last is kept, as it is now")
            .at(Stages.with(SECOND, "light 1 5", "keep"))
            .taken("error = 0.0", "light 1 2", "error = 4.0", "last = 2", "error = 25.0", "keep", "error = 0.0")
            // A picture that is told later does not change it, nor is it changed by what is kept.
            .taken("begin 3 1 1 false", "itself", "square", "error = 0.0", "sample 0 0 0 = 15", "done", "error = 12769.0");
    }

    private static void promise18VectorsAndPasts() {
        new Edge(18, "the vectors forward x, y, backward x, y (4 to 7); the pasts of planes 0 to 2 (8 to 10)")
            .at(new String[] {"size 3 1", "begin 3 2 3 true", "itself", "level 3 0 1", "level 4 0 2", "level 5 0 3", "square"})
            .taken("told 8 = 1032", "told 9 = 1040", "told 10 = 1048", "told 4 = 0", "told 5 = 0", "told 6 = 0", "told 7 = 0")
            // As they are told, also if the picture is whole; pasts stay until the square is made.
            .taken("vector 0 5 -6", "told 4 = 5", "told 5 = -6", "told 6 = 0", "told 7 = 0", "vector 1 7 -8", "told 4 = 5",
                "told 5 = -6", "told 6 = 7", "told 7 = -8", "told 8 = 1032", "square = 2", "told 8 = 1024", "told 9 = 1024",
                "told 10 = 1024", "told 4 = 5", "told 7 = -8");
    }

    private static void promise18What() {
        Edge edge = new Edge(18, "IllegalArgumentException: another what").at(Stages.ALL);
        edge.taken("told 0", "told 10")
            .refused("told -1 ! argument", "told 11 ! argument", "told " + LEAST + " ! argument",
                "told " + MOST + " ! argument");
        edge.at(Stages.with(Stages.OPEN_1)).taken("told 0 = 1", "told 10 = 1024", "told 9 = 1000", "told 8 = 1096");
        edge.at(Stages.with(Stages.OPEN_3)).taken("told 0 = 3", "told 4 = 3", "told 5 = -2", "told 6 = 4", "told 7 = 5",
            "told 8 = 1024");
        // To ask changes nothing.
        edge.at(Stages.ALL).same(new String[] {}, new String[] {"told 0", "told 3", "told 4", "told 7", "told 10"});
    }

    private static void promise18WithoutAPicture() {
        new Edge(18, "The kind of the open picture, 0 without one (what = 0); how many of its squares are there (1)")
            .at(Stages.NONE_OPEN).taken("told 0 = 0", "told 1 = 0", "begin 3 1 1 false", "told 0 = 3", "told 1 = 0")
            .at(Stages.OPEN_1).taken("told 0 = 1", "told 1 = 1").at(Stages.OPEN_2).taken("told 0 = 2", "told 1 = 1")
            .at(Stages.OPEN_3).taken("told 0 = 3", "told 1 = 1")
            .at(Stages.FULL).taken("told 1 = 2", "done", "told 0 = 0", "told 1 = 0");
    }

    private static void promise18Counts() {
        new Edge(18, "how many pictures were done (2), shown (3)")
            .taken("told 2 = 0", "told 3 = 0").at(FIRST).taken("told 2 = 1", "told 3 = 0", "last = 1", "told 2 = 1", "told 3 = 1")
            .at(SECOND).taken("told 2 = 2", "told 3 = 1", "last = 2", "told 2 = 2", "told 3 = 2", "last = 2", "told 3 = 2")
            .at(Stages.with(SECOND, "begin 3 1 1 false", "itself", "square")).taken("told 2 = 2", "told 3 = 1", "done = 2",
                "told 2 = 3", "told 3 = 2");
    }

    /** The last of the 512 calls that an object is used for. */
    private static void allCallsOfAnObject() {
        String[] pictures = new String[510];
        for (int i = 0; i < 170; i++) {
            pictures[3 * i] = "begin 2 1 1 false";
            pictures[3 * i + 1] = "square = 1";
            pictures[3 * i + 2] = "done = " + i;
        }
        Edge edge = new Edge(Document.WHAT_IT_IS, "An object is used for at most 512 calls after it has been made").at(pictures);
        edge.taken("told 2 = 170", "told 3 = 169").taken("last = 170", "sample 0 15 15 = 128").taken("told 0 = 0", "told 1 = 0");
    }
}
