import java.util.Arrays;

/**
 * A boundary case that a sentence of the document names, looked at from both sides: what is still taken, with what it
 * answers and does, and what is refused, which must change nothing. Lines are written as for Script. Each run of them
 * is made on a new deck, once behind each of the edge's stages.
 */
final class Edge {
    private static final int PROMISES = 18;
    private static final int[] edges = new int[PROMISES + 1];

    private final String name;
    private String[][] stages = {Stages.NEW};

    Edge(int promise, String sentence) {
        edges[promise]++;
        name = "promise " + promise + ", \"" + sentence + "\"";
    }

    /** Fails too if a promise has no edge at all. */
    static void finish() {
        for (int promise = 1; promise <= PROMISES; promise++) {
            System.out.println("promise " + promise + ": " + edges[promise] + " boundary cases");
            Script.due("promise " + promise + " has a boundary case", edges[promise] > 0, true);
        }
        Script.finish();
    }

    Edge at(String[]... stages) {
        this.stages = stages;
        return this;
    }

    Edge taken(String... lines) {
        for (String[] stage : stages) {
            new Script(name + told(stage)).say(stage).say(lines);
        }
        return this;
    }

    /** Each line is a call that throws, and is made on a deck of its own. */
    Edge refused(String... lines) {
        for (String[] stage : stages) {
            for (String line : lines) {
                refusedOne(stage, line);
            }
        }
        return this;
    }

    /** The same is answered to all that is asked later, whether these calls are made behind a stage or those. */
    Edge same(String[] these, String[] those) {
        for (String[] stage : stages) {
            sameAnswers(Stages.with(stage, these), Stages.with(stage, those));
        }
        return this;
    }

    /** Behind all stages the calls lead to the same deck as they do on a new one. */
    Edge sameAsNew(String... calls) {
        for (String[] stage : stages) {
            sameAnswers(Stages.with(stage, calls), calls);
        }
        return this;
    }

    private void refusedOne(String[] stage, String line) {
        if (!line.contains("!")) {
            throw new IllegalArgumentException(line + " does not say what is thrown");
        }
        new Script(name + told(stage)).say(stage).say(line);
        sameAnswers(stage, Stages.with(stage, line.split(" !")[0]));
    }

    private void sameAnswers(String[] these, String[] those) {
        Script.due(name + ": what differs behind" + told(these) + told(those), Twins.difference(these, those), "");
    }

    private static String told(String[] stage) {
        return " " + Arrays.toString(stage);
    }
}
