import java.util.ArrayList;
import java.util.List;

/** Two decks that were told different calls, and are then asked for all that the face shows, in several ways. */
final class Twins {
    private static final int MOST_CALLS = 512;
    private static final int MOST_SQUARES = 12;
    private static final List<List<String>> WAYS = List.of(
        List.of(), matrices(), reaches(), shown());
    private static final List<List<String>> WAYS_ON = List.of(
        finished("square"), finished("vector 0 3 1", "vector 1 1 3", "square"),
        finished("itself", "level 3 5 40", "square"), leftOut(), references("vector 0 0 0"), references("vector 1 0 0"));
    private static final List<String> BEGINS = List.of("begin 2 2 2 false", "begin 3 2 2 true");

    private Twins() {
    }

    /** The first call that is answered differently, with both answers; nothing if there is none. */
    static String difference(String[] these, String[] those) {
        List<String> samples = samples(these);
        int room = MOST_CALLS - Math.max(these.length, those.length);
        for (List<String> way : ways(told(these).told(0) != 0)) {
            // A deck answers for so many calls alone: the samples are looked at in parts, each on new decks.
            int part = room - way.size();
            if (part < 1) {
                throw new IllegalArgumentException("too many calls to look at what follows");
            }
            for (int from = 0; from < samples.size(); from += part) {
                List<String> calls = new ArrayList<>(way);
                calls.addAll(samples.subList(from, Math.min(from + part, samples.size())));
                String difference = differenceIn(calls, told(these), told(those));
                if (!difference.isEmpty()) {
                    return difference;
                }
            }
        }
        return "";
    }

    /** A picture begins only where none is open: a begin that both decks refuse could hide what differs. */
    private static List<List<String>> ways(boolean open) {
        List<List<String>> ways = new ArrayList<>(WAYS);
        if (open) {
            ways.addAll(WAYS_ON);
            return ways;
        }
        for (String begin : BEGINS) {
            for (List<String> way : WAYS_ON) {
                List<String> calls = new ArrayList<>(List.of(begin));
                calls.addAll(way);
                ways.add(calls);
            }
        }
        return ways;
    }

    private static PictureDeck told(String[] calls) {
        PictureDeck deck = new PictureDeck();
        for (String call : calls) {
            Calls.answer(deck, call.split(" [=!]")[0]);
        }
        return deck;
    }

    private static String differenceIn(List<String> calls, PictureDeck one, PictureDeck other) {
        for (String call : calls) {
            String first = Calls.answer(one, call);
            String second = Calls.answer(other, call);
            if (!first.equals(second)) {
                return call + ": " + first + ", " + second;
            }
        }
        return "";
    }

    /** What is told, and all samples of pictures of the size that was told last. */
    private static List<String> samples(String[] told) {
        int w = 1;
        int h = 1;
        for (String call : told) {
            String[] words = call.split(" ");
            if (words[0].equals("size")) {
                w = Calls.n(words, 1);
                h = Calls.n(words, 2);
            }
        }
        List<String> calls = new ArrayList<>();
        for (int what = 0; what <= 10; what++) {
            calls.add("told " + what);
        }
        addSamples(calls, 0, 16 * w, 16 * h);
        addSamples(calls, 1, 8 * w, 8 * h);
        addSamples(calls, 2, 8 * w, 8 * h);
        return calls;
    }

    private static void addSamples(List<String> calls, int plane, int width, int height) {
        for (int y = 0; y < height; y++) {
            for (int x = 0; x < width; x++) {
                calls.add("sample " + plane + " " + x + " " + y);
            }
        }
    }

    private static List<String> matrices() {
        List<String> calls = new ArrayList<>();
        for (int i = 0; i < 64; i++) {
            calls.add("matrix 0 " + i + " 1");
            calls.add("matrix 1 " + i + " 1");
        }
        return calls;
    }

    /** One more than each reach: refused as an argument, or not. */
    private static List<String> reaches() {
        List<String> calls = new ArrayList<>();
        for (int reach = 1; reach <= 16; reach++) {
            calls.add("vector 0 " + (16 * reach + 1) + " 0");
            calls.add("vector 1 0 " + (16 * reach + 1));
        }
        return calls;
    }

    private static List<String> shown() {
        return List.of("error", "colour 0 0", "colour 15 9", "last", "error", "light 1 1", "error", "keep", "error");
    }

    /** All squares that the open picture lacks, whichever kind it has, and its end. */
    private static List<String> finished(String... first) {
        List<String> calls = new ArrayList<>(List.of(first));
        for (int i = 0; i < MOST_SQUARES; i++) {
            calls.addAll(List.of("itself", "level 0 1 3", "square"));
        }
        calls.addAll(List.of("done", "last"));
        return calls;
    }

    private static List<String> leftOut() {
        List<String> calls = new ArrayList<>();
        for (int i = 0; i < MOST_SQUARES; i++) {
            calls.add("leave 1");
        }
        calls.addAll(finished());
        return calls;
    }

    private static List<String> references(String vector) {
        List<String> calls = finished();
        calls.addAll(List.of("begin 3 1 1 false", vector, "square"));
        for (int i = 1; i < MOST_SQUARES; i++) {
            calls.add("leave 1");
        }
        calls.add("done");
        return calls;
    }
}
