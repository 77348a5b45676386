import java.util.Arrays;
import java.util.Map;
import java.util.TreeMap;

/**
 * A case that words of the document name, looked at from both sides: what is still taken, with what it answers and
 * does, and what is refused, which must change nothing. Lines are written as for Script. Each run of them is made on
 * a new deck, once behind each of the edge's stages.
 */
final class Edge {
    private static final Map<String, Integer> COUNTS = new TreeMap<>();

    private final String name;
    private String[][] stages = {Stages.NEW};

    Edge(int promise, String words) {
        this(promise, words, "");
    }

    Edge(int promise, String words, String note) {
        this(Document.promise(promise), words, note);
    }

    Edge(String section, String words) {
        this(section, words, "");
    }

    /** The words stand in that section of the document; the note says which case of them this is. */
    Edge(String section, String words, String note) {
        COUNTS.merge(section, 1, Integer::sum);
        name = section + ", \"" + words + "\"" + (note.isEmpty() ? "" : " (" + note + ")");
        Script.due(name + " are the document's words", Document.quote(section, words), true);
    }

    /** Fails too if there are words of the document that no edge has looked at. */
    static void finish() {
        for (String section : Document.sections()) {
            int count = COUNTS.getOrDefault(section, 0);
            System.out.println(section + ": " + count + " cases");
            Script.due(section + " has a case", count > 0, true);
            Script.due("words of " + section + " without a case", Document.notQuoted(section), "");
        }
        Script.finish();
    }

    Edge at(String[]... stages) {
        this.stages = stages;
        return this;
    }

    Edge taken(String... lines) {
        for (String[] stage : stages) {
            new Script(name + told(stage)).say(stage).say(lines);
        }
        return this;
    }

    /** Each line is a call that throws, and is made on a deck of its own. */
    Edge refused(String... lines) {
        for (String[] stage : stages) {
            for (String line : lines) {
                refusedOne(stage, line);
            }
        }
        return this;
    }

    /** The same is answered to all that is asked later, whether these calls are made behind a stage or those. */
    Edge same(String[] these, String[] those) {
        for (String[] stage : stages) {
            sameAnswers(Stages.with(stage, these), Stages.with(stage, those));
        }
        return this;
    }

    /** Behind all stages the calls lead to the same deck as they do on a new one. */
    Edge sameAsNew(String... calls) {
        for (String[] stage : stages) {
            sameAnswers(Stages.with(stage, calls), calls);
        }
        return this;
    }

    private void refusedOne(String[] stage, String line) {
        if (!line.contains("!")) {
            throw new IllegalArgumentException(line + " does not say what is thrown");
        }
        new Script(name + told(stage)).say(stage).say(line);
        sameAnswers(stage, Stages.with(stage, line.split(" !")[0]));
    }

    private void sameAnswers(String[] these, String[] those) {
        Script.due(name + ": what differs behind" + told(these) + told(those), Twins.difference(these, those), "");
    }

    private static String told(String[] stage) {
        return " " + Arrays.toString(stage);
    }
}
