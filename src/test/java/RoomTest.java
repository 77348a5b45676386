import java.lang.management.ManagementFactory;
import java.lang.reflect.Array;
import java.lang.reflect.Field;
import java.lang.reflect.Method;
import java.lang.reflect.Modifier;
import java.util.ArrayList;
import java.util.HashSet;
import java.util.IdentityHashMap;
import java.util.List;
import java.util.Map;
import java.util.Set;
import java.util.function.Consumer;

/**
 * All that a run makes must fit into one room: a new deck once, and 512 times what the dearest call on it makes.
 * Rows are made in constructors, so no call makes anything but the exception that it throws.
 */
public final class RoomTest {
    private static final int CALLS = 512;
    private static final long MOST_OBJECTS = 600_000;
    private static final long MOST_PARTS = 7_300_000;
    // What a call makes and drops can only be told in bytes; no object has fewer than eight, no part fewer than one.
    private static final int LEAST_BYTES = 8;
    // Early rounds also count what the virtual machine makes when code is met for the first time.
    private static final int ROUNDS = 4;

    private static final com.sun.management.ThreadMXBean THREADS =
            (com.sun.management.ThreadMXBean) ManagementFactory.getThreadMXBean();

    private final Map<Object, Boolean> seen = new IdentityHashMap<>();
    private long parts = 0;

    private static final class Call {
        final String text;
        final boolean throwing;
        final Consumer<PictureDeck> body;
        boolean threw;
        long bytes = Long.MAX_VALUE;

        Call(String text, boolean throwing, Consumer<PictureDeck> body) {
            this.text = text;
            this.throwing = throwing;
            this.body = body;
        }

        void measureOn(PictureDeck deck) {
            threw = false;
            long before = THREADS.getCurrentThreadAllocatedBytes();
            try {
                body.accept(deck);
            } catch (RuntimeException e) {
                threw = true;
            }
            bytes = Math.min(bytes, THREADS.getCurrentThreadAllocatedBytes() - before);
        }
    }

    public static void main(String[] args) throws IllegalAccessException {
        if (!THREADS.isThreadAllocatedMemorySupported()) {
            System.out.println("what a call makes can't be measured here");
            System.exit(1);
        }
        THREADS.setThreadAllocatedMemoryEnabled(true);
        theMeasureSeesWhatIsMade();
        List<Call> all = new ArrayList<>();
        for (int w = 1; w <= 4; w++) {
            for (int h = 1; h <= 3; h++) {
                all.addAll(measured(w, h));
                nothingIsHeldThatWasMadeLater(w, h);
            }
        }
        everyMethodIsMeasured(all);
        onlyExceptionsAreMade(all);
        aRunFits(all);
        Script.finish();
    }

    /** A measure that always answers 0 would let everything pass. */
    private static void theMeasureSeesWhatIsMade() {
        int[][] held = new int[1][];
        Call call = new Call("a row", false, deck -> held[0] = new int[768]);
        for (int i = 0; i < ROUNDS; i++) {
            call.measureOn(null);
        }
        Script.due("a row of 768 is seen: " + call.bytes, call.bytes >= 4 * 768 && call.bytes < 4 * 768 + 64, true);
        Script.due("and was made", held[0].length, 768);
    }

    /** The first call is size() on a new deck; the measure is the least of some rounds, each with a deck of its own. */
    private static List<Call> measured(int w, int h) {
        List<Call> calls = calls(w, h);
        for (int i = 0; i < ROUNDS; i++) {
            PictureDeck deck = new PictureDeck();
            for (Call call : calls) {
                call.measureOn(deck);
            }
        }
        for (Call call : calls) {
            Script.due(call.text + " throws", call.threw, call.throwing);
        }
        return calls;
    }

    private static void everyMethodIsMeasured(List<Call> all) {
        Set<String> measured = new HashSet<>();
        for (Call call : all) {
            measured.add(call.text.split(" ")[0]);
        }
        Set<String> face = new HashSet<>();
        for (Method method : PictureDeck.class.getDeclaredMethods()) {
            if (Modifier.isPublic(method.getModifiers())) {
                face.add(method.getName());
            }
        }
        Script.due("methods that are measured", measured, face);
    }

    private static void onlyExceptionsAreMade(List<Call> all) {
        for (Call call : all) {
            if (!call.throwing) {
                Script.due("bytes that " + call.text + " makes", call.bytes, 0L);
            }
        }
    }

    private static void aRunFits(List<Call> all) throws IllegalAccessException {
        RoomTest room = new RoomTest();
        room.count(new PictureDeck());
        long dearest = 0;
        for (Call call : all) {
            dearest = Math.max(dearest, call.bytes);
        }
        long objects = room.seen.size() + CALLS * (dearest / LEAST_BYTES);
        long parts = room.parts + CALLS * dearest;
        Script.due("room for objects: " + objects, objects <= MOST_OBJECTS, true);
        Script.due("room for parts: " + parts, parts <= MOST_PARTS, true);
        System.out.println("a new deck: " + room.seen.size() + " objects, " + room.parts + " parts; the dearest call: "
                + dearest + " bytes");
    }

    private static void nothingIsHeldThatWasMadeLater(int w, int h) throws IllegalAccessException {
        PictureDeck deck = new PictureDeck();
        RoomTest before = new RoomTest();
        before.count(deck);
        for (Call call : calls(w, h)) {
            call.measureOn(deck);
            RoomTest after = new RoomTest();
            after.count(deck);
            Script.due("parts after " + call.text, after.parts, before.parts);
            Script.due("the same objects after " + call.text, after.seen.keySet().equals(before.seen.keySet()), true);
        }
    }

    /** Calls that use all of a deck, in pictures of all kinds, and some of each kind that throw. */
    private static List<Call> calls(int w, int h) {
        List<Call> calls = new ArrayList<>();
        add(calls, "size " + w + " " + h, deck -> deck.size(w, h));
        addThrowing(calls, "keep", deck -> deck.keep());
        for (int kind = 1; kind <= 3; kind++) {
            addPicture(calls, kind, w * h);
            addLooks(calls);
        }
        addThrowing(calls, "size 5 3", deck -> deck.size(5, 3));
        addThrowing(calls, "sample 0 -1 0", deck -> deck.sample(0, -1, 0));
        addThrowing(calls, "square", deck -> deck.square());
        add(calls, "size 4 3", deck -> deck.size(4, 3));
        add(calls, "size 1 1", deck -> deck.size(1, 1));
        return calls;
    }

    private static void addPicture(List<Call> calls, int kind, int squares) {
        add(calls, "begin " + kind, deck -> deck.begin(kind, 2, 2, kind == 3));
        add(calls, "scale 3", deck -> deck.scale(3));
        add(calls, "matrix 1 3 20", deck -> deck.matrix(1, 3, 20));
        for (int n = 0; n < squares; n++) {
            addSquare(calls, kind, n);
        }
        add(calls, "done", deck -> deck.done());
        add(calls, "last", deck -> deck.last());
    }

    private static void addSquare(List<Call> calls, int kind, int n) {
        if (kind != 1 && n % 3 == 2) {
            add(calls, "leave 1", deck -> deck.leave(1));
            return;
        }
        if (kind == 1) {
            add(calls, "itself", deck -> deck.itself());
        } else {
            add(calls, "vector 0 1 -3", deck -> deck.vector(0, 1, -3));
        }
        if (kind == 3) {
            add(calls, "vector 1 -5 7", deck -> deck.vector(1, -5, 7));
        }
        add(calls, "level " + n % 6 + " 2 9", deck -> deck.level(n % 6, 2, 9));
        add(calls, "square", deck -> deck.square());
    }

    private static void addLooks(List<Call> calls) {
        add(calls, "keep", deck -> deck.keep());
        add(calls, "light 2 1", deck -> deck.light(2f, 1f));
        add(calls, "error", deck -> deck.error());
        add(calls, "sample 0 3 3", deck -> deck.sample(0, 3, 3));
        add(calls, "colour 3 3", deck -> deck.colour(3, 3));
        add(calls, "told 4", deck -> deck.told(4));
    }

    private static void add(List<Call> calls, String text, Consumer<PictureDeck> body) {
        calls.add(new Call(text, false, body));
    }

    private static void addThrowing(List<Call> calls, String text, Consumer<PictureDeck> body) {
        calls.add(new Call(text, true, body));
    }

    /** Goes through all that the object holds, and counts each object once, with its fields or elements. */
    private void count(Object object) throws IllegalAccessException {
        if (object == null || seen.put(object, true) != null) {
            return;
        }
        Class<?> type = object.getClass();
        if (type.isArray()) {
            parts += Array.getLength(object);
            if (!type.getComponentType().isPrimitive()) {
                for (Object element : (Object[]) object) {
                    count(element);
                }
            }
            return;
        }
        for (Field field : type.getDeclaredFields()) {
            if (!Modifier.isStatic(field.getModifiers())) {
                parts++;
                field.setAccessible(true);
                if (!field.getType().isPrimitive()) {
                    count(field.get(object));
                }
            }
        }
    }
}
