/** Promises 4 to 8: begin, scale, itself, vector, level. */
public final class TellingTest {
    public static void main(String[] args) {
        beginHasEdges();
        beginSetsAll();
        scaleHasEdges();
        scaleCountsWhenTheSquareIsMade();
        itselfNeedsASquare();
        vectorHasEdges();
        vectorGoesRound();
        vectorsRest();
        levelHasEdges();
        levelIsSet();
        Script.finish();
    }

    private static void beginHasEdges() {
        new Script("4 edges").say(
            "begin 0 1 1 false ! argument", "begin 4 1 1 false ! argument", "begin -1 1 1 false ! argument",
            "begin 1 0 1 false ! argument", "begin 1 17 1 false ! argument", "begin 1 1 0 false ! argument",
            "begin 1 1 17 false ! argument", "begin 3 16 16 true", "told 0 = 3",
            "begin 1 1 1 false ! state", "begin 0 1 1 false ! argument", "begin 1 1 17 false ! argument",
            "told 0 = 3");
    }

    private static void beginSetsAll() {
        new Script("4 pasts, vectors, scale").say(
            "size 2 1", "begin 2 2 2 false", "scale 31", "itself", "level 0 0 5", "level 4 0 -5", "square = 1",
            "vector 0 7 -7", "square = 2", "told 4 = 7", "done = 0", "told 4 = 7", "told 5 = -7",
            "begin 1 1 1 false", "told 0 = 1", "told 1 = 0", "told 4 = 0", "told 5 = 0",
            "itself", "level 0 0 5", "level 0 1 32", "square = 1", "told 8 = 1064", "itself", "square = 2", "done = 1",
            "told 8 = 1064", "begin 2 1 1 false", "told 8 = 1024", "leave 2 = 2", "done = 2",
            // 2 * 32 * 16 / 16 = 64, made 63: with the scale 31 it would be near 2000.
            "sample 0 0 0 = 144", "sample 0 7 0 = 122");
        new Script("4 whole or not").say(
            "size 2 1", "begin 1 1 1 false").flatSquare(128, 128, 128, 0, 0, 0, 0, 0, 0)
            .flatSquare(0, 0, 0, 200, 200, 200, 200, 200, 200).say("done = 0",
            "begin 2 1 1 true", "vector 0 1 0", "square", "leave 1", "done", "begin 2 1 1 false", "vector 0 1 0",
            "square", "leave 1", "done = 2", "sample 0 14 0 = 0", "sample 0 15 0 = 200", "sample 1 7 0 = 100",
            "last = 3", "sample 0 13 0 = 0", "sample 0 14 0 = 100", "sample 0 15 0 = 200", "sample 1 7 0 = 100");
    }

    private static void scaleHasEdges() {
        new Script("5 edges").say(
            "scale 0 ! argument", "scale 32 ! argument", "scale 1 ! state", "begin 1 1 1 false", "scale -1 ! argument",
            "scale 32 ! argument", "scale 1", "scale 31", "itself", "square = 1", "scale 31", "done", "scale 2 ! state");
    }

    private static void scaleCountsWhenTheSquareIsMade() {
        // 2 * 2 * 15 * 16 / 16 = 60, made 59; with the scale 4: 16, made 15.
        new Script("5 from the square on").say(
            "size 3 1", "begin 1 1 1 false", "scale 3", "itself", "level 0 1 2", "scale 15", "square",
            "itself", "level 0 1 2", "square", "itself", "level 0 1 2", "scale 4", "square", "scale 31", "done", "last",
            "sample 0 0 0 = 138", "sample 0 7 0 = 118", "sample 0 16 0 = 138", "sample 0 32 0 = 131",
            "sample 0 39 0 = 125");
        new Script("5 stays when refused").say(
            "begin 1 1 1 false", "scale 15", "scale 32 ! argument", "scale 0 ! argument", "itself", "level 0 1 2",
            "square", "done", "last", "sample 0 0 0 = 138");
        new Script("5 is nothing told for the square").say("begin 2 1 1 false", "scale 7", "leave 1 = 1");
    }

    private static void itselfNeedsASquare() {
        new Script("6 states").say(
            "itself ! state", "begin 3 1 1 false", "itself", "itself", "vector 0 0 0 ! state", "square = 1",
            "itself ! state", "done = 1", "itself ! state", "begin 3 1 1 false", "vector 1 0 0", "itself ! state",
            "square = 1");
        new Script("6 refused, still fetched").flat(50, 50, 50, 50, 50, 50).say(
            "begin 2 1 1 false", "vector 0 1 1", "itself ! state", "square = 1", "done", "last", "sample 0 3 3 = 50");
        new Script("6 behind levels").say(
            "begin 1 1 1 false", "level 0 0 10", "square ! state", "itself", "square = 1", "done", "last",
            "sample 0 0 0 = 138");
        new Script("6 for one square alone").say(
            "size 2 1", "begin 1 1 1 false", "itself", "square = 1", "square ! state");
        new Script("6 the vectors rest when the square is made").say(
            "size 2 1", "begin 3 1 1 false", "vector 0 3 4", "vector 1 -5 6", "square", "itself", "square = 2",
            "told 4 = 0", "told 5 = 0", "told 6 = 0", "told 7 = 0");
    }

    private static void vectorHasEdges() {
        new Script("7 before begin").say(
            "vector -1 0 0 ! argument", "vector 2 0 0 ! argument", "vector 0 17 0 ! argument",
            "vector 0 0 -17 ! argument", "vector 1 -17 0 ! argument", "vector 1 0 17 ! argument",
            "vector 0 -2147483648 0 ! argument", "vector 0 16 -16 ! state", "vector 1 0 0 ! state");
        new Script("7 each direction has its reach").say(
            "begin 3 2 3 false", "vector 0 33 0 ! argument", "vector 0 0 -33 ! argument", "vector 1 49 0 ! argument",
            "vector 1 0 -49 ! argument", "vector 0 32 -32", "vector 1 48 -48", "told 4 = -32", "told 5 = -32",
            "told 6 = -48", "told 7 = -48");
        new Script("7 kinds").say(
            "begin 1 1 1 false", "vector 0 0 0 ! state", "vector 1 0 0 ! state", "vector 2 0 0 ! argument", "itself",
            "square", "vector 0 0 0 ! state", "done", "vector 0 0 0 ! state", "begin 2 1 1 false",
            "vector 1 0 0 ! state", "vector 1 17 0 ! argument", "vector 0 0 0", "square = 1", "vector 0 0 0 ! state",
            "vector 0 17 0 ! argument");
        new Script("7 reaches stay behind done").say(
            "begin 2 2 1 false", "leave 1", "done", "vector 0 32 0 ! state", "vector 0 33 0 ! argument");
    }

    private static void vectorGoesRound() {
        new Script("7 round").say(
            "begin 3 1 2 false", "vector 0 15 -16", "told 4 = 15", "told 5 = -16", "vector 0 1 -1", "told 4 = -16",
            "told 5 = 15", "vector 0 -1 1", "told 4 = 15", "told 5 = -16", "vector 0 16 16", "told 4 = -1", "told 5 = 0",
            "vector 0 -16 -16", "told 4 = 15", "told 5 = -16", "vector 0 16 -16", "told 4 = -1", "told 5 = 0",
            "told 6 = 0", "told 7 = 0", "vector 1 31 -32", "vector 1 1 -1", "told 6 = -32", "told 7 = 31");
    }

    private static void vectorsRest() {
        new Script("7 kind 2, none told").say(
            "size 3 1", "begin 2 2 1 false", "vector 0 5 6", "square", "told 4 = 5", "vector 0 1 1", "square",
            "told 4 = 6", "told 5 = 7", "square", "told 4 = 0", "told 5 = 0");
        new Script("7 kind 3, the other stays").say(
            "size 3 1", "begin 3 2 2 false", "vector 0 5 6", "vector 1 7 8", "square", "vector 0 1 1", "square",
            "told 4 = 6", "told 5 = 7", "told 6 = 7", "told 7 = 8", "vector 1 1 1", "square", "told 6 = 8",
            "told 7 = 9", "told 4 = 6", "done = 1", "told 4 = 6", "begin 3 1 1 false", "told 4 = 0", "told 7 = 0");
    }

    private static void levelHasEdges() {
        new Script("8 edges").say(
            "level -1 0 0 ! argument", "level 6 0 0 ! argument", "level 0 -1 0 ! argument", "level 0 64 0 ! argument",
            "level 0 0 -256 ! argument", "level 0 0 256 ! argument", "level 0 0 0 ! state", "begin 1 1 1 false",
            "level 6 0 0 ! argument", "level 5 63 -255", "level 0 0 255", "itself", "level 0 0 256 ! argument", "square",
            "level 0 0 0 ! state", "level 0 64 0 ! argument", "told 8 = 2040");
    }

    private static void levelIsSet() {
        new Script("8 the last one counts").say(
            "begin 1 1 1 false", "itself", "level 0 0 10", "level 0 0 20", "level 4 0 -3", "level 4 0 0", "square",
            "told 8 = 1184", "told 9 = 1024");
        new Script("8 of one square alone").say(
            "size 2 1", "begin 1 1 1 false", "itself", "level 0 0 10", "level 3 7 200", "square", "itself", "square",
            "told 8 = 1104", "done", "last", "sample 0 31 15 = 138", "sample 0 24 8 = 138");
        new Script("8 refused, not set").say(
            "begin 1 1 1 false", "itself", "level 1 0 10", "level 1 0 256 ! argument", "level 1 64 3 ! argument",
            "level 6 0 3 ! argument", "square", "done", "last", "sample 0 0 0 = 128", "sample 0 8 0 = 138",
            "sample 1 0 0 = 128");
    }
}
