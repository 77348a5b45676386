import java.util.ArrayList;
import java.util.List;

/**
 * A run of calls on a new deck, written as text: "matrix 0 0 9 = 8" says what the call must answer,
 * "scale 0 ! argument" what it must throw (argument, state or index); a line with neither must not throw.
 * Around each call that must throw, what told() answers is looked at too: it may not change.
 */
final class Script {
    private static final int MOST_CALLS = 512;
    private static int wrong = 0;
    private static int checked = 0;

    private final String name;
    private final PictureDeck deck = new PictureDeck();
    private int calls = 0;

    Script(String name) {
        this.name = name;
    }

    static void finish() {
        System.out.println(checked + " calls checked, " + wrong + " wrong");
        if (wrong != 0 || checked == 0) {
            System.exit(1);
        }
    }

    static void due(String what, Object got, Object want) {
        checked++;
        if (!got.equals(want)) {
            wrong++;
            System.out.println(what + ": got " + got + ", due is " + want);
        }
    }

    Script say(String... lines) {
        for (String line : lines) {
            sayOne(line);
        }
        return this;
    }

    Script repeat(int times, String... lines) {
        for (int i = 0; i < times; i++) {
            say(lines);
        }
        return this;
    }

    /** A picture for itself of one square, of flat blocks with the samples given. */
    Script flat(int upperLeft, int upperRight, int lowerLeft, int lowerRight, int first, int second) {
        say("begin 1 1 1 false");
        flatSquare(128, 128, 128, upperLeft, upperRight, lowerLeft, lowerRight, first, second);
        return say("done");
    }

    /** The levels of a square for itself behind the samples past0, past1, past2. */
    Script flatSquare(int past0, int past1, int past2, int... samples) {
        int[] past = {past0, samples[0], samples[1], samples[2], past1, past2};
        say("itself");
        for (int block = 0; block < 6; block++) {
            say("level " + block + " 0 " + (samples[block] - past[block]));
        }
        return say("square");
    }

    private void sayOne(String line) {
        String call = line.split(" [=!]")[0].trim();
        if (line.contains("!")) {
            List<Integer> before = allTold();
            due(name + ": " + call, answer(call), "throws " + line.split("! *")[1].trim());
            due(name + ": what is told after " + line, allTold(), before);
        } else if (line.contains("=")) {
            due(name + ": " + call, answer(call), line.split("= *")[1].trim());
        } else {
            String got = answer(call);
            due(name + ": " + call, got.startsWith("throws") ? got : "no throw", "no throw");
        }
        if (calls > MOST_CALLS) {
            throw new IllegalStateException(name + " has more calls than the document answers for");
        }
    }

    private List<Integer> allTold() {
        List<Integer> all = new ArrayList<>();
        for (int what = 0; what <= 10; what++) {
            calls++;
            all.add(deck.told(what));
        }
        return all;
    }

    private String answer(String call) {
        calls++;
        return Calls.answer(deck, call);
    }
}
