import java.lang.reflect.Array;
import java.lang.reflect.Field;
import java.lang.reflect.Modifier;
import java.util.ArrayDeque;
import java.util.Collections;
import java.util.Deque;
import java.util.IdentityHashMap;
import java.util.Set;

/** What an object holds, from the constructor on: rows are made there, and no call makes any that stay. */
public final class RoomTest {
    private static final int MOST_OBJECTS = 200;
    private static final int MOST_ELEMENTS = 40_000;

    private static int wrong;
    private int objects;
    private int elements;
    private final Set<Object> seen = Collections.newSetFromMap(new IdentityHashMap<>());
    private final Deque<Object> open = new ArrayDeque<>();

    private RoomTest() {
    }

    public static void main(String[] args) throws Exception {
        Equalbook book = new Equalbook();
        RoomTest before = measured(book);
        useMuch(book);
        RoomTest after = measured(book);
        ask(before.objects <= MOST_OBJECTS, before.objects + " objects at first");
        ask(before.elements <= MOST_ELEMENTS, before.elements + " fields and elements at first");
        ask(after.objects == before.objects, "as many objects behind all calls: " + after.objects);
        ask(after.elements == before.elements, "as many fields and elements: " + after.elements);
        System.out.println("RoomTest: " + before.objects + " objects, " + before.elements + " fields and elements, "
                + wrong + " wrong");
        if (wrong > 0) {
            System.exit(1);
        }
    }

    private static void ask(boolean isSo, String what) {
        if (!isSo) {
            wrong++;
            System.out.println("RoomTest: " + what);
        }
    }

    /** Fills all that has a place, and asks all that is dear. */
    private static void useMuch(Equalbook book) {
        for (int t = 0; t < 58; t++) {
            book.term(7, t / 8, t % 8);
        }
        ask(book.house(0) == 64, "all TERMS are there, but " + book.house(0));
        for (int k = 0; k < 14; k++) {
            book.tell(k % 2, k, k + 6);
            book.find(k % 3, 0, 6);
        }
        for (int k = 0; k < 5; k++) {
            book.level(k % 2);
            book.keep(k, k % 3);
            book.steps(0, 6, 7, 4);
            book.meet(0, 6, 7, 3);
            book.path(0, 0, 6);
            book.why(0, 0, 6);
            book.join(k % 2, 2);
            book.shorten(k % 3);
            book.law(k % 2, true, true);
            book.normal(0, 63);
            book.digest();
        }
    }

    private static RoomTest measured(Equalbook book) throws Exception {
        RoomTest room = new RoomTest();
        room.add(book);
        while (!room.open.isEmpty()) {
            room.count(room.open.pop());
        }
        return room;
    }

    private void add(Object one) {
        // How a StringBuilder grows is the library's.
        if (one != null && !(one instanceof StringBuilder) && seen.add(one)) {
            open.push(one);
        }
    }

    private void count(Object one) throws Exception {
        objects++;
        if (one.getClass().isArray()) {
            elements += Array.getLength(one);
            for (int k = 0; k < Array.getLength(one) && !one.getClass().getComponentType().isPrimitive(); k++) {
                add(Array.get(one, k));
            }
            return;
        }
        for (Field field : one.getClass().getDeclaredFields()) {
            if (!Modifier.isStatic(field.getModifiers())) {
                elements++;
                field.setAccessible(true);
                if (!field.getType().isPrimitive()) {
                    add(field.get(one));
                }
            }
        }
    }
}
