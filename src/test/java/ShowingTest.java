/** Promises 11 to 13, 16 and 18: done, last, sample, keep, told. */
public final class ShowingTest {
    public static void main(String[] args) {
        doneHasStates();
        picturesAreShownInTheirOrder();
        lastShowsOnce();
        kindThreeIsNoReference();
        sampleHasEdges();
        keepTakesItAsItIs();
        toldHasEdges();
        toldTellsAll();
        Script.finish();
    }

    private static void doneHasStates() {
        new Script("11 states").say(
            "done ! state", "size 2 1", "begin 2 1 1 false", "done ! state", "square", "done ! state", "square",
            "done = 0", "done ! state");
    }

    private static void picturesAreShownInTheirOrder() {
        new Script("11 order").flat(10, 10, 10, 10, 1, 2).say("told 2 = 1", "told 3 = 0", "sample 0 0 0 ! state")
            .flat(20, 20, 20, 20, 3, 4).say(
            "told 2 = 2", "told 3 = 1", "sample 0 0 0 = 10", "sample 1 0 0 = 1", "sample 2 7 7 = 2",
            "begin 3 1 1 false", "vector 0 0 0", "vector 1 0 0", "square", "sample 0 0 0 = 10", "done = 2",
            "sample 0 0 0 = 15", "begin 3 1 1 false", "itself", "square", "done = 3", "sample 0 0 0 = 128",
            "begin 2 1 1 false", "square", "sample 0 0 0 = 128", "done = 4", "sample 0 0 0 = 20",
            "last = 5", "sample 0 0 0 = 20", "told 2 = 5", "told 3 = 5");
        new Script("11 a first picture of the kind 3").say(
            "begin 3 1 1 false", "vector 0 0 0", "square", "done = 1", "sample 0 3 3 = 128", "last = 1");
    }

    private static void lastShowsOnce() {
        new Script("12 once").say("last = 0", "last = 0").flat(10, 10, 10, 10, 1, 2).say(
            "last = 1", "sample 0 0 0 = 10", "last = 1", "begin 2 1 1 false", "last ! state", "square", "last ! state",
            "level 0 0 0 ! state", "done = 1", "sample 0 0 0 = 10", "last = 2", "last = 2")
            .flat(30, 30, 30, 30, 1, 2).say(
            "told 3 = 2", "sample 0 0 0 = 10", "begin 3 1 1 false", "itself", "square", "done = 3", "last = 4",
            "sample 0 0 0 = 30", "last = 4", "told 2 = 4");
    }

    private static void kindThreeIsNoReference() {
        new Script("11 kind 3 stays out").flat(10, 10, 10, 10, 1, 2).flat(20, 20, 20, 20, 3, 4).say(
            "begin 3 1 1 false", "itself", "square", "done", "begin 3 1 1 false", "vector 0 0 0", "square", "done",
            "sample 0 0 0 = 10", "begin 3 1 1 false", "vector 1 0 0", "square", "done", "sample 0 0 0 = 20",
            "begin 2 1 1 false", "square", "done = 5", "begin 3 1 1 false", "vector 0 0 0", "square", "done",
            "sample 0 0 0 = 20");
    }

    private static void sampleHasEdges() {
        new Script("13 edges").say("sample 0 0 0 ! state", "sample 3 0 0 ! state", "sample 0 -1 0 ! state", "size 2 1")
            .say("begin 2 1 1 false", "leave 2", "done", "sample 3 99 99 ! state", "last",
            "sample 0 31 15 = 128", "sample 0 32 0 ! index", "sample 0 0 16 ! index", "sample 0 -1 0 ! index",
            "sample 0 0 -1 ! index", "sample 1 15 7 = 128", "sample 1 16 0 ! index", "sample 1 0 8 ! index",
            "sample 2 15 7 = 128", "sample 2 16 7 ! index", "sample 2 -1 7 ! index", "sample 3 0 0 ! index",
            "sample -1 0 0 ! index", "sample 0 2147483647 0 ! index", "sample 0 0 -2147483648 ! index");
    }

    private static void keepTakesItAsItIs() {
        new Script("16 states").say("keep ! state").flat(10, 10, 10, 10, 1, 2).say("keep ! state", "error ! state")
            .flat(20, 20, 20, 20, 1, 2).say("error ! state", "keep", "error = 0.0");
        new Script("16 as it is now").flat(10, 10, 10, 10, 1, 2).flat(20, 20, 20, 20, 1, 2).say(
            "light 1 5", "keep", "error = 0.0", "light 1 1", "error = 1.0", "last = 2", "error = 25.0", "keep",
            "error = 0.0", "light 0 0", "error = 400.0");
        new Script("16 not since size").flat(10, 10, 10, 10, 1, 2).say(
            "last", "keep", "size 1 1", "keep ! state").flat(20, 20, 20, 20, 1, 2).say("last", "error ! state");
    }

    private static void toldHasEdges() {
        new Script("18 edges").say(
            "told -1 ! argument", "told 11 ! argument", "told 2147483647 ! argument", "told -2147483648 ! argument");
    }

    private static void toldTellsAll() {
        new Script("18 all").say("size 3 1").say(
            "begin 3 2 3 false", "told 0 = 3", "told 1 = 0", "itself", "level 0 0 1", "level 4 0 2", "level 5 0 3",
            "square", "told 1 = 1", "told 8 = 1032", "told 9 = 1040", "told 10 = 1048", "vector 0 1 2", "vector 1 3 -4",
            "told 4 = 1", "told 5 = 2", "told 6 = 3", "told 7 = -4", "told 8 = 1032", "square", "told 1 = 2",
            "told 8 = 1024", "told 9 = 1024", "told 10 = 1024", "leave 1", "told 1 = 3", "told 2 = 0", "told 3 = 0",
            "done", "told 0 = 0", "told 1 = 0", "told 2 = 1", "told 3 = 1", "told 4 = 1", "told 5 = 2", "told 6 = 3",
            "told 7 = -4", "begin 1 1 1 false", "told 0 = 1", "told 2 = 1");
    }
}
