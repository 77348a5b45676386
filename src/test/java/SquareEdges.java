/** Promise 9, and what Terms says of squares: when one is made, where it lies, and what is past behind it. */
final class SquareEdges {
    private SquareEdges() {
    }

    static void all() {
        promise9IsMade();
        promise9NoPictureIsOpen();
        promise9AllSquaresAreThere();
        promise9KindOneNotForItself();
        promise9KindThreeWithoutVector();
        promise9LevelsAreZeroThen();
        promise9AnswersHowManyAreThere();
        termsRowsOfSquares();
        termsBlocksOfASquare();
        termsPastNotBelow();
        termsPastNotAbove();
        termsPastOfEachPlane();
        termsPastsBehindOtherSquares();
    }

    private static void promise9IsMade() {
        // The next one in its order, of what was told for it alone, and nothing of the others.
        new Edge(9, "The square that is to come is made")
            .at(new String[] {"size 2 2", "begin 2 1 1 false", "square = 1"})
            .taken("level 0 0 2", "scale 31", "square = 2", "told 1 = 2", "leave 2", "done", "last", "sample 0 0 0 = 128",
                "sample 0 16 0 = 147", "sample 0 24 0 = 128", "sample 0 0 16 = 128", "sample 0 16 16 = 128",
                "sample 1 8 0 = 128")
            .taken("square = 2", "itself", "level 5 0 9", "square = 3", "square = 4", "done", "last",
                "sample 2 0 7 = 128", "sample 2 0 8 = 137", "sample 2 7 15 = 137", "sample 2 8 8 = 128");
    }

    private static void promise9NoPictureIsOpen() {
        new Edge(9, "IllegalStateException: no picture is open")
            .at(Stages.NONE_OPEN).refused("square ! state").taken("begin 2 1 1 false", "square = 1")
            .at(Stages.FULL).taken("done", "square ! state");
    }

    private static void promise9AllSquaresAreThere() {
        new Edge(9, "IllegalStateException: ... all its squares are there")
            .at(Stages.FULL).refused("square ! state").taken("done")
            .at(Stages.TOLD_1, Stages.TOLD_2, Stages.TOLD_3).taken("square = 2", "square ! state", "told 1 = 2")
            .at(new String[] {"size 4 3", "begin 2 1 1 false", "leave 11 = 11"})
            .taken("square = 12", "square ! state", "told 1 = 12", "done = 0");
    }

    private static void promise9KindOneNotForItself() {
        new Edge(9, "IllegalStateException: ... this one is not for itself, with the kind 1")
            .at(Stages.OPEN_1, Stages.with(Stages.OPEN_1, "level 0 0 9"), new String[] {"begin 1 1 1 false"})
            .refused("square ! state").taken("itself", "square")
            // What was told before the call that was refused still counts.
            .at(new String[] {"begin 1 1 1 false", "level 0 0 9"})
            .taken("square ! state", "itself", "square = 1", "told 8 = 1096");
    }

    private static void promise9KindThreeWithoutVector() {
        new Edge(9, "IllegalStateException: ... this one ... has no vector, with the kind 3")
            .at(Stages.OPEN_3, Stages.with(Stages.OPEN_3, "level 0 0 9"), Stages.with(Stages.CLOSED, "begin 3 1 1 false"))
            .refused("square ! state")
            .taken("vector 0 0 0", "square").taken("vector 1 0 0", "square").taken("itself", "square")
            .taken("vector 0 0 0", "vector 1 0 0", "square")
            .at(Stages.OPEN_2, Stages.with(Stages.OPEN_2, "level 0 0 9")).taken("square = 2");
    }

    private static void promise9LevelsAreZeroThen() {
        // At places 0 and 63 of the first and the last block, of a square for itself and of another.
        String[] levels = {"level 0 0 9", "level 0 63 100", "level 5 0 9", "level 5 63 100"};
        String[] itself = Stages.with(new String[] {"size 2 1", "begin 2 1 1 false", "itself"}, levels);
        String[] other = Stages.with(new String[] {"size 2 1", "begin 2 1 1 false"}, levels);
        new Edge(9, "all levels are 0 then")
            .at(Stages.with(itself, "square = 1"), Stages.with(other, "square = 1"))
            .taken("square = 2", "done", "last", "sample 0 16 0 = 128", "sample 0 23 7 = 128", "sample 2 8 0 = 128",
                "sample 2 15 7 = 128")
            .same(new String[] {"itself"}, new String[] {
                "itself", "level 0 0 0", "level 0 63 0", "level 5 0 0", "level 5 63 0",
            })
            .at(itself).taken("square = 1", "told 8 = 1096", "itself", "square = 2", "told 8 = 1096", "told 10 = 1096");
    }

    private static void promise9AnswersHowManyAreThere() {
        String[] twelve = new String[13];
        twelve[0] = "told 1 = 0";
        for (int i = 1; i <= 12; i++) {
            twelve[i] = "square = " + i;
        }
        String[] largest = {"size 4 3", "begin 2 1 1 false"};
        new Edge(9, "Answers how many of the picture are there")
            .at(largest).taken(twelve).taken(Stages.with(twelve, "square ! state", "done = 0", "told 1 = 0"))
            .at(Stages.with(largest, Stages.with(twelve, "done = 0", "begin 2 1 1 false")))
            .taken("told 1 = 0", "square = 1", "told 1 = 1");
    }

    private static void termsRowsOfSquares() {
        Edge edge = new Edge(Document.TERMS, "Square n lies in row n / W, column n modulo W");
        for (int w = 1; w <= 4; w++) {
            for (int h = 2; h <= 3; h++) {
                // The last square of the first row, and the first one of the row below.
                edge.at(litSquare(w, h, w - 1)).taken(
                    "sample 0 " + (16 * w - 16) + " 0 = 138", "sample 0 " + (16 * w - 1) + " 15 = 138",
                    "sample 0 0 16 = 128", "sample 2 " + (8 * w - 8) + " 7 = 138", "sample 2 0 8 = 128");
                edge.at(litSquare(w, h, w)).taken(
                    "sample 0 " + (16 * w - 1) + " 15 = 128", "sample 0 0 16 = 138", "sample 0 15 31 = 138",
                    "sample 2 " + (8 * w - 1) + " 7 = 128", "sample 2 7 8 = 138", "sample 1 0 8 = 128");
                edge.at(litSquare(w, h, w * h - 1)).taken(
                    "sample 0 " + (16 * w - 1) + " " + (16 * h - 1) + " = 138",
                    "sample 0 " + (16 * w - 1) + " " + (16 * h - 17) + " = 128");
            }
        }
    }

    /** A shown picture in which square n alone, of planes 0 and 2, is not 128. */
    private static String[] litSquare(int w, int h, int n) {
        String[] before = {"size " + w + " " + h, "begin 2 1 1 false"};
        String[] lit = {"itself", "level 0 0 10", "level 5 0 10", "square"};
        String[] behind = {"done", "last"};
        if (n > 0) {
            before = Stages.with(before, "leave " + n);
        }
        if (n < w * h - 1) {
            behind = Stages.with(new String[] {"leave " + (w * h - 1 - n)}, behind);
        }
        return Stages.with(before, Stages.with(lit, behind));
    }

    private static void termsBlocksOfASquare() {
        new Edge(Document.TERMS, "0 to 3 the quarters of its 16 by 16 in plane 0 (left and right, then below), 4 and 5 its 8"
            + " by 8 in planes 1 and 2")
            .at(Stages.with(Stages.flat(10, 20, 30, 40, 50, 60), "last"))
            .taken("sample 0 7 7 = 10", "sample 0 8 7 = 20", "sample 0 7 8 = 30", "sample 0 8 8 = 40",
                "sample 0 0 0 = 10", "sample 0 15 0 = 20", "sample 0 0 15 = 30", "sample 0 15 15 = 40",
                "sample 1 0 0 = 50", "sample 1 7 7 = 50", "sample 2 0 0 = 60", "sample 2 7 7 = 60");
    }

    private static void termsPastNotBelow() {
        new Edge(Document.TERMS, "grows by 8 times the level, but not below 0")
            .at(new String[] {"size 2 1", "begin 1 1 1 false", "itself"})
            .taken("level 4 0 -127", "square", "told 9 = 8", "itself", "square", "done", "last", "sample 1 0 0 = 1")
            .taken("level 4 0 -128", "square", "told 9 = 0", "itself", "square", "done", "last", "sample 1 0 0 = 0")
            .taken("level 4 0 -129", "square", "told 9 = 0", "itself", "level 4 0 1", "square", "told 9 = 8", "done",
                "last", "sample 1 0 0 = 0", "sample 1 8 0 = 1")
            .taken("level 4 0 -255", "square", "told 9 = 0", "itself", "level 4 0 2", "square", "told 9 = 16");
        new Edge(Document.TERMS, "grows by 8 times the level, but not below 0", "from block to block")
            .at(new String[] {"begin 1 1 1 false", "itself", "level 0 0 -100"})
            .taken("level 1 0 -28", "level 2 0 1", "square", "told 8 = 8")
            .taken("level 1 0 -29", "level 2 0 1", "square", "told 8 = 8", "done", "last", "sample 0 0 0 = 28",
                "sample 0 8 0 = 0", "sample 0 0 8 = 1", "sample 0 8 8 = 1")
            .taken("level 1 0 -27", "level 2 0 1", "square", "told 8 = 16");
    }

    private static void termsPastNotAbove() {
        new Edge(Document.TERMS, "nor above 2040")
            .at(new String[] {"size 2 1", "begin 1 1 1 false", "itself"})
            .taken("level 5 0 126", "square", "told 10 = 2032", "itself", "square", "done", "last", "sample 2 0 0 = 254")
            .taken("level 5 0 127", "square", "told 10 = 2040", "itself", "square", "done", "last", "sample 2 0 0 = 255")
            .taken("level 5 0 128", "square", "told 10 = 2040", "itself", "level 5 0 -1", "square", "told 10 = 2032",
                "done", "last", "sample 2 0 0 = 255", "sample 2 8 0 = 254")
            .taken("level 5 0 255", "square", "told 10 = 2040", "itself", "level 5 0 -2", "square", "told 10 = 2024");
        new Edge(Document.TERMS, "nor above 2040", "from block to block")
            .at(new String[] {"begin 1 1 1 false", "itself", "level 0 0 100"})
            .taken("level 1 0 27", "level 2 0 -1", "square", "told 8 = 2032")
            .taken("level 1 0 28", "level 2 0 -1", "square", "told 8 = 2032", "done", "last", "sample 0 0 0 = 228",
                "sample 0 8 0 = 255", "sample 0 0 8 = 254", "sample 0 8 8 = 254")
            .taken("level 1 0 26", "level 2 0 -1", "square", "told 8 = 2024");
    }

    private static void termsPastOfEachPlane() {
        new Edge(Document.TERMS, "the PAST of its plane, which was 1024 at first, and before that grows by 8 times the level")
            .at(new String[] {"begin 1 1 1 false", "itself"})
            .taken("square", "told 8 = 1024", "told 9 = 1024", "told 10 = 1024")
            .taken("level 3 0 1", "level 4 0 2", "level 5 0 3", "told 8 = 1024", "square", "told 8 = 1032",
                "told 9 = 1040", "told 10 = 1048");
    }

    private static void termsPastsBehindOtherSquares() {
        String[] grown = {
            "begin 2 1 1 false", "itself", "level 0 0 1", "level 4 0 2", "level 5 0 3", "square", "told 8 = 1032",
        };
        String[] again = {"told 8 = 1024", "told 9 = 1024", "told 10 = 1024"};
        String[] two = Stages.with(new String[] {"size 2 1"}, grown);
        String[] three = Stages.with(new String[] {"size 2 1", "begin 3 1 1 false"}, Stages.with(
            new String[] {"itself", "level 0 0 1", "level 4 0 2", "level 5 0 3"}, "square", "told 8 = 1032"));
        new Edge(Document.TERMS, "Pasts are 1024 again ... behind each square that is not for itself")
            .at(two).taken(Stages.with(new String[] {"square = 2"}, again))
            .taken(Stages.with(new String[] {"vector 0 0 0", "told 8 = 1032", "square = 2"}, again))
            .at(three).taken(Stages.with(new String[] {"vector 1 0 0", "told 8 = 1032", "square = 2"}, again))
            .refused("square ! state")
            .at(two, three).taken("itself", "square = 2", "told 8 = 1032", "told 9 = 1040", "told 10 = 1048");
    }
}
