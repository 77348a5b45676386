/** Promises 14, 15 and 17: colour, light, error. */
public final class LightTest {
    public static void main(String[] args) {
        coloursAreReckonedInFloats();
        coloursHaveEdges();
        coloursTakeTheirPlaces();
        coloursTakeTheirRows();
        lightHasEdges();
        lightCutsOff();
        lightChangesWhatIsShownAlone();
        errorAddsFloats();
        Script.finish();
    }

    private static void colour(int y, int p, int q, int due) {
        new Script("14 colour of " + y + " " + p + " " + q).flat(y, y, y, y, p, q).say("last", "colour 9 9 = " + due);
    }

    private static int mix(int red, int green, int blue) {
        return 65536 * red + 256 * green + blue;
    }

    private static void coloursAreReckonedInFloats() {
        colour(128, 128, 128, mix(128, 128, 128));
        colour(0, 128, 128, 0);
        colour(255, 128, 128, mix(255, 255, 255));
        // Red 100 + 28.04, green 100 - 3.44 - 14.28, blue 100 + 17.72, each and a half.
        colour(100, 138, 148, mix(128, 82, 118));
        colour(100, 118, 108, mix(72, 118, 82));
        colour(255, 255, 255, mix(255, 121, 255));
        colour(0, 0, 0, mix(0, 135, 0));
        colour(0, 255, 255, mix(178, 0, 225));
        // In doubles the green would be 19, and added in another order 221.
        colour(0, 178, 78, mix(0, 18, 89));
        colour(239, 78, 178, mix(255, 220, 150));
    }

    private static void coloursHaveEdges() {
        new Script("14 edges").say("colour 0 0 ! state", "colour -1 0 ! state", "size 1 2").say(
            "begin 2 1 1 false", "leave 2", "done", "last", "colour 15 31 = 8421504", "colour 16 0 ! index",
            "colour 0 32 ! index", "colour -1 0 ! index", "colour 0 -1 ! index", "colour -2147483648 2147483647 ! index");
    }

    private static void coloursTakeTheirPlaces() {
        new Script("14 places").say("size 2 1", "begin 1 1 1 false")
            .flatSquare(128, 128, 128, 100, 110, 120, 130, 128, 128)
            .flatSquare(130, 128, 128, 140, 140, 140, 140, 138, 148).say(
            "done", "last", "colour 0 0 = " + mix(100, 100, 100), "colour 15 7 = " + mix(110, 110, 110),
            "colour 7 8 = " + mix(120, 120, 120), "colour 15 15 = " + mix(130, 130, 130),
            "colour 16 0 = " + mix(168, 122, 158), "colour 31 15 = " + mix(168, 122, 158), "light 0 50",
            "colour 15 15 = " + mix(50, 50, 50), "colour 16 0 = " + mix(78, 32, 68));
    }

    private static void coloursTakeTheirRows() {
        new Script("14 rows").say("size 1 2", "begin 1 1 1 false")
            .flatSquare(128, 128, 128, 140, 140, 140, 140, 128, 128)
            .flatSquare(140, 128, 128, 140, 140, 140, 140, 138, 148).say(
            "done", "last", "colour 0 15 = " + mix(140, 140, 140), "colour 0 16 = " + mix(168, 122, 158),
            "colour 15 31 = " + mix(168, 122, 158));
    }

    private static void lightHasEdges() {
        String[] wrong = {
            "light 1000.0001 0", "light -1000.0001 0", "light 0 100000.01", "light 0 -100000.01", "light NaN 0",
            "light 0 NaN", "light Infinity 0", "light -Infinity 0", "light 0 Infinity", "light 0 -Infinity",
            "light 3.4028235E38 0", "light NaN NaN",
        };
        Script before = new Script("15 before any was shown").say("light 1 0 ! state", "light 1000 -100000 ! state");
        Script behind = new Script("15 edges").flat(100, 100, 100, 100, 1, 1).say("last");
        for (String call : wrong) {
            before.say(call + " ! argument");
            behind.say(call + " ! argument");
        }
        behind.say("sample 0 0 0 = 100", "light 1000 -99900", "sample 0 0 0 = 100", "light -1000 100000",
            "sample 0 0 0 = 0", "light -1000 100000", "sample 0 0 0 = 255", "light 1000 -100000", "sample 0 0 0 = 255",
            "light -1000 -100000", "sample 0 0 0 = 0");
    }

    private static void lit(int sample, String gainAndOffset, int due) {
        new Script("15 " + sample + " lit " + gainAndOffset).flat(sample, sample, sample, sample, 1, 1).say(
            "last", "light " + gainAndOffset, "sample 0 0 0 = " + due, "sample 0 15 15 = " + due, "sample 1 0 0 = 1",
            "sample 2 0 0 = 1");
    }

    private static void lightCutsOff() {
        lit(101, "0.5 0", 50);
        lit(101, "0.5 0.25", 50);
        lit(101, "-0.5 100", 49);
        lit(101, "0 -0.75", 0);
        lit(101, "-1 100", 0);
        lit(101, "0 255.875", 255);
        lit(101, "0 256", 255);
        lit(101, "3 0", 255);
        lit(101, "1 -0.5", 100);
        // 0.01 is a little less as a float, but 100 of them are 1 as a float, and less as a double.
        lit(100, "0.01 0", 1);
    }

    private static void lightChangesWhatIsShownAlone() {
        new Script("15 references stay").flat(100, 100, 100, 100, 10, 20).say(
            "last = 1", "light 0 7", "sample 0 0 0 = 7", "begin 2 1 1 false", "square", "done = 1", "sample 0 0 0 = 7",
            "light 2 0", "sample 0 0 0 = 14", "last = 2", "sample 0 0 0 = 100",
            "begin 3 1 1 false", "vector 0 0 0", "vector 1 0 0", "square", "done = 3", "sample 0 0 0 = 100", "light 0 3",
            "sample 0 0 0 = 3", "begin 3 1 1 false", "vector 0 0 0", "square", "light 0 9", "done = 4",
            "sample 0 0 0 = 100", "begin 3 1 1 false", "vector 1 0 0", "square", "done", "sample 0 0 0 = 100");
    }

    private static void errorAddsFloats() {
        new Script("17 states").say("error ! state").flat(10, 10, 10, 10, 1, 1).say("error ! state", "last",
            "error ! state", "keep", "error = 0.0", "size 1 1", "error ! state");
        // Differences 1, -2, 3, -4 of a quarter each: (1 + 4 + 9 + 16) / 4; planes 1 and 2 do not count.
        new Script("17 quarters").flat(100, 100, 100, 100, 1, 1).say("last", "keep").flat(101, 98, 103, 96, 90, 90).say(
            "error = 0.0", "last", "error = 7.5");
        // 3072 times 64516 is more than a float holds to the last place.
        new Script("17 floats one by one").say(
            "size 4 3", "begin 2 1 1 false", "leave 12", "done", "last", "light 0 0", "keep", "light 0 254",
            "error = 64513.35546875", "light 0 253", "error = 64010.625", "light 0 100", "error = 10000.0");
    }
}
