import java.lang.management.ManagementFactory;
import java.lang.reflect.Array;
import java.lang.reflect.Field;
import java.lang.reflect.Modifier;
import java.util.IdentityHashMap;
import java.util.Map;

/** All that a run of 512 calls makes must fit into one room; calls other than a first large size() make nothing. */
public final class RoomTest {
    private static final int CALLS = 512;
    private static final int MOST_OBJECTS = 600_000;
    private static final int MOST_PARTS = 7_300_000;

    private final Map<Object, Boolean> seen = new IdentityHashMap<>();
    private long parts = 0;

    public static void main(String[] args) throws IllegalAccessException {
        roomOfNewObjects();
        nothingIsMadeLater();
        callsMakeNoGarbage();
        Script.finish();
    }

    /** The worst that calls can do is to make decks, each grown by a size() of its own. */
    private static void roomOfNewObjects() throws IllegalAccessException {
        RoomTest room = new RoomTest();
        PictureDeck deck = new PictureDeck();
        room.count(deck);
        Script.due("room for parts of new decks alone", room.parts * CALLS <= MOST_PARTS, true);
        Script.due("room for new decks alone", room.seen.size() * CALLS <= MOST_OBJECTS, true);
        deck.size(4, 3);
        room.countNew(deck);
        Script.due("room for parts of new and grown decks", room.parts * (CALLS / 2) <= MOST_PARTS, true);
        Script.due("room for new and grown decks", room.seen.size() * (CALLS / 2) <= MOST_OBJECTS, true);
        System.out.println("a new deck, grown: " + room.seen.size() + " objects, " + room.parts + " parts");
    }

    private static void nothingIsMadeLater() throws IllegalAccessException {
        PictureDeck deck = new PictureDeck();
        deck.size(2, 1);
        RoomTest room = new RoomTest();
        room.count(deck);
        long parts = room.parts;
        int objects = room.seen.size();
        useAll(deck, 4, 3);
        useAll(deck, 1, 2);
        room.countNew(deck);
        Script.due("parts", room.parts, parts);
        Script.due("objects", room.seen.size(), objects);
    }

    private static void callsMakeNoGarbage() {
        com.sun.management.ThreadMXBean threads =
                (com.sun.management.ThreadMXBean) ManagementFactory.getThreadMXBean();
        PictureDeck deck = new PictureDeck();
        useAll(deck, 4, 3);
        long id = Thread.currentThread().getId();
        threads.getThreadAllocatedBytes(id);
        long before = threads.getThreadAllocatedBytes(id);
        for (int i = 0; i < 10; i++) {
            useAll(deck, 1 + i % 4, 1 + i % 3);
        }
        long made = threads.getThreadAllocatedBytes(id) - before;
        // Some bytes are the measure's own.
        Script.due("calls make nothing: " + made + " bytes", made < 4096, true);
    }

    private static void useAll(PictureDeck deck, int w, int h) {
        deck.size(w, h);
        for (int kind = 1; kind <= 3; kind++) {
            deck.begin(kind, 2, 2, false);
            deck.scale(3);
            deck.matrix(1, 3, 20);
            for (int n = 0; n < w * h; n++) {
                tell(deck, kind, n);
            }
            deck.done();
            deck.last();
            deck.keep();
            deck.light(2f, 1f);
            deck.error();
            deck.sample(0, 3, 3);
            deck.colour(3, 3);
            deck.told(4);
        }
    }

    private static void tell(PictureDeck deck, int kind, int n) {
        if (kind != 1 && n % 3 == 2) {
            deck.leave(1);
            return;
        }
        if (kind == 1) {
            deck.itself();
        } else {
            deck.vector(kind == 3 ? n % 2 : 0, 1, -3);
        }
        deck.level(n % 6, 2, 9);
        deck.square();
    }

    private void countNew(Object object) throws IllegalAccessException {
        Map<Object, Boolean> known = new IdentityHashMap<>(seen);
        seen.clear();
        count(object, known);
        seen.putAll(known);
    }

    private void count(Object object) throws IllegalAccessException {
        count(object, new IdentityHashMap<>());
    }

    /** Goes through all that the object holds; what is known already is gone through, but not counted again. */
    private void count(Object object, Map<Object, Boolean> known) throws IllegalAccessException {
        if (object == null || seen.put(object, true) != null) {
            return;
        }
        boolean isNew = !known.containsKey(object);
        Class<?> type = object.getClass();
        if (type.isArray()) {
            parts += isNew ? Array.getLength(object) : 0;
            if (!type.getComponentType().isPrimitive()) {
                for (Object element : (Object[]) object) {
                    count(element, known);
                }
            }
            return;
        }
        for (Field field : type.getDeclaredFields()) {
            if (!Modifier.isStatic(field.getModifiers())) {
                parts += isNew ? 1 : 0;
                field.setAccessible(true);
                if (!field.getType().isPrimitive()) {
                    count(field.get(object), known);
                }
            }
        }
    }
}
