/** Promise 10: leave. */
final class LeavingEdges {
    private LeavingEdges() {
    }

    static void all() {
        promise10AreLeftOut();
        promise10HowMany();
        promise10NoneWithoutAnOpenPicture();
        promise10KindOne();
        promise10SomethingWasTold();
        promise10NoneBefore();
        promise10TheOneBeforeIsForItself();
        promise10VectorsOfKindTwo();
        promise10VectorsOfKindThree();
        promise10Pasts();
        promise10AnswersAsSquare();
    }

    private static void promise10AreLeftOut() {
        // The picture before has squares of 10, 20, 30 and 40; the vector fetches each from 8 samples to its right.
        String[] stage = Stages.with(fourSquares(10), "begin 2 1 1 false");
        new Edge(10, "So many squares are left out")
            .at(stage)
            .taken("leave 1 = 1", "vector 0 15 0", "vector 0 1 0", "vector 0 -16 0", "told 4 = 0", "square = 2",
                "leave 2 = 4", "done", "last", "sample 0 0 0 = 10", "sample 0 16 0 = 20", "sample 0 32 0 = 30",
                "sample 0 63 15 = 40")
            .taken("leave 3 = 3", "itself", "square = 4", "done", "last", "sample 0 0 0 = 10", "sample 0 31 0 = 20",
                "sample 0 47 15 = 30", "sample 0 48 0 = 128")
            .taken("itself", "square = 1", "leave 3 = 4", "done", "last", "sample 0 15 15 = 128", "sample 0 16 0 = 20",
                "sample 0 32 0 = 30", "sample 0 48 0 = 40");
        // In rows below, too, and with planes 1 and 2.
        String[] rows = Stages.with(new String[] {"size 1 3", "begin 1 1 1 false"}, Stages.with(
            Stages.flatSquare(128, 128, 128, 10, 20, 30, 40, 50, 60), Stages.with(
            Stages.flatSquare(40, 50, 60, 11, 21, 31, 41, 51, 61), Stages.with(
            Stages.flatSquare(41, 51, 61, 12, 22, 32, 42, 52, 62), "done", "begin 2 1 1 false", "leave 3 = 3", "done",
            "last"))));
        new Edge(10, "So many squares are left out", "one below the other")
            .at(rows).taken("sample 0 0 0 = 10", "sample 0 15 16 = 21", "sample 0 0 47 = 32", "sample 0 15 47 = 42",
                "sample 1 0 8 = 51", "sample 2 7 23 = 62", "sample 1 7 7 = 50");
    }

    private static void promise10HowMany() {
        String[] five = {"size 4 3", "begin 2 1 1 false", "square", "square", "square", "square", "square"};
        String[] moved = {"size 4 3", "begin 3 1 1 false", "vector 0 1 1", "square"};
        new Edge(10, "IllegalArgumentException: n is not 1 to those that are left")
            .at(five).taken("leave 1 = 6", "told 1 = 6").taken("leave 7 = 12", "told 1 = 12", "done = 0")
            .taken("leave 6 = 11", "leave 2 ! argument", "leave 1 = 12", "leave 1 ! argument")
            .refused("leave 0 ! argument", "leave 8 ! argument", "leave -1 ! argument", "leave 12 ! argument",
                "leave -2147483648 ! argument", "leave 2147483647 ! argument")
            .at(moved).taken("leave 1 = 2").taken("leave 11 = 12").refused("leave 0 ! argument", "leave 12 ! argument")
            // The argument is named first, whatever else is wrong.
            .at(Stages.OPEN_1, Stages.OPEN_2, Stages.OPEN_3, Stages.TOLD_1, Stages.TOLD_2, Stages.TOLD_3)
            .refused("leave 0 ! argument", "leave 2 ! argument")
            .at(Stages.FULL).refused("leave 0 ! argument", "leave 1 ! argument");
    }

    private static void promise10NoneWithoutAnOpenPicture() {
        new Edge(10, "(none without an open picture). IllegalStateException: no picture is open", "the argument is named first")
            .at(Stages.NONE_OPEN)
            .refused("leave 1 ! argument", "leave 0 ! argument", "leave 2 ! argument", "leave -1 ! argument")
            .taken("begin 2 1 1 false", "leave 1 = 1");
    }

    private static void promise10KindOne() {
        new Edge(10, "IllegalStateException: ... the kind is 1")
            .at(Stages.OPEN_1, new String[] {"begin 1 1 1 false"}).refused("leave 1 ! state").taken("itself", "square")
            .at(Stages.OPEN_2, Stages.OPEN_3).taken("leave 1 = 2");
    }

    private static void promise10SomethingWasTold() {
        new Edge(10, "IllegalStateException: ... something was told for the square to come")
            .at(Stages.with(Stages.OPEN_2, "level 0 0 0"), Stages.with(Stages.OPEN_2, "level 5 63 1"),
                Stages.with(Stages.OPEN_2, "vector 0 0 0"), Stages.with(Stages.OPEN_2, "itself"),
                Stages.with(Stages.OPEN_3, "level 0 0 0"), Stages.with(Stages.OPEN_3, "vector 0 0 0"),
                Stages.with(Stages.OPEN_3, "vector 1 0 0"), Stages.with(Stages.OPEN_3, "itself"), Stages.TOLD_2,
                Stages.TOLD_3)
            .refused("leave 1 ! state")
            // What was told for the square before, or refused, or is not of this square, does not count.
            .at(Stages.OPEN_2, Stages.OPEN_3).taken("leave 1 = 2")
            .taken("level 0 0 256 ! argument", "vector 0 33 0 ! argument", "leave 1 = 2")
            .taken("scale 9", "matrix 0 0 9", "leave 1 = 2");
    }

    private static void promise10NoneBefore() {
        new Edge(10, "IllegalStateException: ... with the kind 3 there is none before")
            .at(new String[] {"size 2 2", "begin 3 1 1 false"}, Stages.with(Stages.FULL_3, "done", "begin 3 1 1 false"))
            .refused("leave 1 ! state", "leave 2 ! state", "leave 0 ! argument", "leave 5 ! argument")
            .taken("vector 0 0 0", "square = 1", "leave 1 = 2")
            .at(new String[] {"size 2 2", "begin 2 1 1 false"}).taken("leave 1 = 1").taken("leave 4 = 4");
    }

    private static void promise10TheOneBeforeIsForItself() {
        String[] itself = {"size 4 1", "begin 3 1 1 false", "vector 0 1 1", "square = 1", "itself", "square = 2"};
        new Edge(10, "IllegalStateException: ... with the kind 3 ... it is one for itself")
            .at(itself).refused("leave 1 ! state", "leave 2 ! state", "leave 0 ! argument", "leave 3 ! argument")
            .taken("vector 1 1 1", "square = 3", "leave 1 = 4")
            .at(new String[] {"size 4 1", "begin 3 1 1 false", "itself", "square = 1", "vector 1 1 1", "square = 2"})
            // Behind one that is left out, too.
            .taken("leave 1 = 3", "leave 1 = 4").taken("leave 2 = 4")
            .at(new String[] {"size 2 1", "begin 2 1 1 false", "itself", "square = 1"}).taken("leave 1 = 2");
    }

    private static void promise10VectorsOfKindTwo() {
        // Two squares of 100 and 200: with the vectors 0 each keeps its own.
        String[] columns = Stages.with(new String[] {"size 2 1", "begin 1 1 1 false"}, Stages.with(
            Stages.flatSquare(128, 128, 128, 100, 100, 100, 100, 100, 100),
            Stages.flatSquare(100, 100, 100, 200, 200, 200, 200, 200, 200)));
        String[] moved = Stages.with(columns, "done", "begin 2 2 1 false", "vector 0 -20 6", "square = 1");
        new Edge(10, "with the kind 2 each is fetched forward with the vectors 0 (which they are then)")
            .at(moved).taken("told 4 = -20", "leave 1 = 2", "told 4 = 0", "told 5 = 0", "done", "last",
                "sample 0 15 0 = 100", "sample 0 16 0 = 200", "sample 1 8 0 = 200")
            // The vector that is told in place of leaving out goes on from the one before.
            .taken("vector 0 0 0", "square = 2", "told 4 = -20", "done", "last", "sample 0 25 0 = 100",
                "sample 0 26 0 = 200", "sample 1 12 0 = 100", "sample 1 13 0 = 200")
            .refused("leave 2 ! argument")
            // The first square as well, and one behind a square for itself.
            .at(Stages.with(columns, "done", "begin 2 1 1 false"))
            .taken("leave 2 = 2", "done", "last", "sample 0 0 0 = 100", "sample 0 31 15 = 200", "sample 2 15 7 = 200")
            .taken("leave 1 = 1", "itself", "square = 2", "done", "last", "sample 0 15 15 = 100", "sample 0 16 0 = 128")
            .taken("itself", "square = 1", "leave 1 = 2", "done", "last", "sample 0 0 0 = 128", "sample 0 16 0 = 200")
            .at(new String[] {"size 4 1", "begin 2 2 1 false", "vector 0 5 6", "square", "leave 2 = 3"})
            .taken("vector 0 1 1", "told 4 = 1", "told 5 = 1", "square = 4");
    }

    private static void promise10VectorsOfKindThree() {
        // The old reference has squares of 10, 20, 30 and 40, the new one of 110, 120, 130 and 140.
        String[] stage = Stages.with(fourSquares(10), Stages.with(fourSquares(110), "begin 3 2 2 false"));
        new Edge(10, "with the kind 3 as the square before, with its directions and vectors")
            .at(Stages.with(stage, "vector 0 2 0", "square", "vector 1 -4 0", "square"))
            // Backward alone, as the square before, though one before that had the other direction.
            .taken("leave 2 = 4", "told 4 = 2", "told 6 = -4", "done", "sample 0 15 0 = 20", "sample 0 33 0 = 120",
                "sample 0 34 0 = 130", "sample 0 49 0 = 130", "sample 0 50 0 = 140")
            .refused("leave 3 ! argument")
            .at(Stages.with(stage, "vector 0 2 0", "vector 1 -4 0", "square"))
            .taken("leave 1 = 2", "leave 2 = 4", "told 4 = 2", "told 6 = -4", "done", "sample 0 15 0 = 65",
                "sample 0 17 0 = 65", "sample 0 18 0 = 70", "sample 0 31 0 = 75", "sample 0 63 0 = 90")
            .refused("leave 4 ! argument")
            .at(Stages.with(stage, "vector 1 -4 0", "square", "vector 0 2 0", "square"))
            .taken("leave 2 = 4", "done", "sample 0 46 0 = 30", "sample 0 47 0 = 40", "sample 0 63 0 = 40");
        // Their vectors count twice as well if the picture is whole.
        new Edge(10, "with the kind 3 as the square before, with its directions and vectors", "in a whole picture")
            .at(Stages.with(fourSquares(10), Stages.with(fourSquares(110), "begin 3 2 2 true", "vector 0 1 0", "square")))
            .taken("leave 3 = 4", "done", "sample 0 14 0 = 10", "sample 0 15 0 = 20", "sample 0 46 0 = 30",
                "sample 0 47 0 = 40");
    }

    private static String[] fourSquares(int first) {
        String[] calls = first < 100 ? new String[] {"size 4 1", "begin 1 1 1 false"} : new String[] {"begin 1 1 1 false"};
        int past = 128;
        for (int sample = first; sample < first + 40; sample += 10) {
            calls = Stages.with(calls, "itself", "level 0 0 " + (sample - past), "square");
            past = sample;
        }
        return Stages.with(calls, "done");
    }

    private static void promise10Pasts() {
        String[] grown = {"size 3 1", "begin 2 1 1 false", "itself", "level 0 0 1", "level 4 0 2", "level 5 0 3", "square"};
        new Edge(10, "Pasts are 1024 then")
            .at(grown).taken("told 8 = 1032", "told 9 = 1040", "told 10 = 1048")
            .taken("leave 1 = 2", "told 8 = 1024", "told 9 = 1024", "told 10 = 1024")
            .taken("leave 2 = 3", "told 8 = 1024", "told 9 = 1024", "told 10 = 1024")
            .refused("leave 0 ! argument", "leave 3 ! argument")
            .at(Stages.with(grown, "level 0 0 0")).refused("leave 1 ! state").taken("told 8 = 1032");
    }

    private static void promise10AnswersAsSquare() {
        new Edge(10, "Answers as square()")
            .at(new String[] {"size 4 3", "begin 2 1 1 false"})
            .taken("leave 1 = 1", "square = 2", "leave 3 = 5", "told 1 = 5", "leave 6 = 11", "square = 12", "done = 0")
            .taken("leave 12 = 12", "leave 1 ! argument", "done = 0").taken("leave 11 = 11", "done ! state");
    }
}
