/** Promises 1 to 3: a new object, size, matrix. */
public final class SetupTest {
    public static void main(String[] args) {
        newObject();
        sizeHasEdges();
        sizeCountsSquares();
        sizeBeginsAnew();
        sizeForgetsTheSquareToCome();
        sizeForgetsReaches();
        matrixAnswersWhatItWas();
        matrixHasEdges();
        matrixCountsWhenTheSquareIsMade();
        Script.finish();
    }

    private static void newObject() {
        new Script("1 nothing told").say(
            "told 0 = 0", "told 1 = 0", "told 2 = 0", "told 3 = 0", "told 4 = 0", "told 5 = 0", "told 6 = 0",
            "told 7 = 0", "told 8 = 1024", "told 9 = 1024", "told 10 = 1024",
            "sample 0 0 0 ! state", "colour 0 0 ! state", "keep ! state", "error ! state", "light 1 0 ! state",
            "last = 0");
        new Script("1 one square").say(
            "begin 1 1 1 false", "itself", "square = 1", "itself ! state", "done = 0", "last = 1",
            "sample 0 15 15 = 128", "sample 1 7 7 = 128", "sample 2 7 7 = 128",
            "sample 0 16 15 ! index", "sample 0 15 16 ! index", "sample 1 8 0 ! index", "sample 2 0 8 ! index");
        new Script("1 matrices").say("matrix 0 0 1 = 8", "matrix 0 1 1 = 16", "matrix 1 0 1 = 16");
    }

    private static void sizeHasEdges() {
        new Script("2 edges").say(
            "size 0 1 ! argument", "size 5 1 ! argument", "size 1 0 ! argument", "size 1 4 ! argument",
            "size -1 -1 ! argument", "size 2147483647 1 ! argument", "size 1 -2147483648 ! argument",
            "size 1 1", "size 4 1", "size 1 3", "size 4 3");
        new Script("2 refused, the open picture goes on").say(
            "begin 2 2 1 false", "vector 0 5 6", "size 5 1 ! argument", "told 0 = 2", "told 4 = 5", "square = 1");
    }

    private static void sizeCountsSquares() {
        for (int w = 1; w <= 4; w++) {
            for (int h = 1; h <= 3; h++) {
                int all = w * h;
                new Script("2 shape " + w + " by " + h).say(
                    "size " + w + " " + h, "begin 2 1 1 false",
                    "leave " + (all + 1) + " ! argument", "leave " + all + " = " + all, "done = 0", "last = 1",
                    "sample 0 " + (16 * w - 1) + " " + (16 * h - 1) + " = 128",
                    "sample 0 " + 16 * w + " 0 ! index", "sample 0 0 " + 16 * h + " ! index",
                    "sample 1 " + (8 * w - 1) + " " + (8 * h - 1) + " = 128",
                    "sample 2 " + 8 * w + " 0 ! index", "sample 1 0 " + 8 * h + " ! index");
            }
        }
    }

    private static void sizeBeginsAnew() {
        new Script("2 anew").flat(10, 20, 30, 40, 50, 60).flat(70, 80, 90, 100, 110, 120).say(
            "keep", "error = 0.0", "matrix 0 0 99", "matrix 0 9 99", "matrix 1 63 99", "begin 3 2 2 true",
            "vector 0 3 4", "told 3 = 1", "size 1 1",
            "told 0 = 0", "told 1 = 0", "told 2 = 0", "told 3 = 0", "told 4 = 0", "told 5 = 0", "told 8 = 1024",
            "sample 0 0 0 ! state", "error ! state",
            "matrix 0 0 8 = 8", "matrix 0 9 16 = 16", "matrix 1 63 16 = 16",
            "last = 0",
            "begin 3 1 1 false", "vector 0 0 0", "square = 1", "done = 1", "sample 0 0 0 = 128", "sample 0 8 8 = 128",
            "begin 3 1 1 false", "vector 1 0 0", "square = 1", "done = 2", "sample 0 0 0 = 128", "sample 2 0 0 = 128",
            "error ! state", "last = 2");
        new Script("2 pasts").say("begin 1 1 1 false", "itself", "level 0 0 9", "square", "told 8 = 1096",
            "size 1 1", "told 8 = 1024");
    }

    private static void sizeForgetsTheSquareToCome() {
        new Script("2 levels and itself").say(
            "begin 1 1 1 false", "itself", "level 0 0 50", "size 1 1",
            "begin 1 1 1 false", "square ! state", "itself", "square = 1", "done", "last", "sample 0 0 0 = 128");
        new Script("2 told directions").say(
            "begin 3 1 1 false", "vector 0 0 0", "size 1 1", "begin 3 1 1 false", "square ! state", "itself");
        new Script("2 anything told").say(
            "begin 2 1 1 false", "level 0 0 0", "size 1 1", "begin 2 1 1 false", "leave 1 = 1");
        new Script("2 the square before").say(
            "size 2 1", "begin 3 1 1 false", "vector 0 0 0", "square = 1", "size 2 1",
            "begin 3 1 1 false", "leave 1 ! state");
    }

    private static void sizeForgetsReaches() {
        new Script("2 reaches").say(
            "begin 2 16 16 false", "size 1 1", "vector 0 17 0 ! argument", "vector 1 0 -17 ! argument",
            "vector 0 16 0 ! state");
    }

    private static void matrixAnswersWhatItWas() {
        new Script("3 answers").say(
            "matrix 0 0 255 = 8", "matrix 0 0 1 = 255", "matrix 0 0 8 = 1", "matrix 0 63 2 = 16", "matrix 1 63 3 = 16",
            "matrix 0 63 4 = 2", "matrix 1 63 5 = 3", "matrix 1 0 7 = 16",
            "begin 1 1 1 false", "matrix 1 0 9 = 7");
    }

    private static void matrixHasEdges() {
        new Script("3 edges").say(
            "matrix -1 0 1 ! argument", "matrix 2 0 1 ! argument", "matrix 0 -1 1 ! argument",
            "matrix 1 64 1 ! argument", "matrix 0 0 0 ! argument", "matrix 0 0 256 ! argument",
            "matrix 1 5 -2147483648 ! argument", "matrix 0 0 8 = 8", "matrix 1 5 16 = 16");
    }

    private static void matrixCountsWhenTheSquareIsMade() {
        // The level 2 at row 0, column 1 makes 4 * 255 / 16 = 63, which moves both ends of a row by 11.
        new Script("3 at square()").say(
            "begin 1 1 1 false", "itself", "level 0 1 2", "matrix 0 1 255", "square", "matrix 0 1 1", "done", "last",
            "sample 0 0 0 = 139", "sample 0 7 0 = 117", "sample 0 0 7 = 139");
        // Row 1, column 0 is place 8 of the matrix, but place 2 of the zigzag.
        new Script("3 by rows").say(
            "begin 1 1 1 false", "itself", "level 0 2 2", "matrix 0 8 255", "square", "done", "last",
            "sample 0 0 0 = 139", "sample 0 7 0 = 139", "sample 0 0 7 = 117");
    }
}
