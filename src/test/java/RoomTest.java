import java.lang.reflect.Array;
import java.lang.reflect.Field;
import java.lang.reflect.Modifier;
import java.util.ArrayDeque;
import java.util.Collections;
import java.util.Deque;
import java.util.IdentityHashMap;
import java.util.Set;

/** What an EchoLine holds is bounded, as the room of a run is: rows are made once and used again. */
public final class RoomTest {
    private static final String SIX = "line a cap 60 marks 1 60 share 2 echo whole;line b cap 60 marks 0 2 share 1 echo each;"
        + "line c cap 60 marks 1 2 share 1;line d cap 60 marks 1 2 share 1;line e cap 60 marks 1 2 share 1;"
        + "line f cap 60 marks 1 2 share 1;";

    private int objects = 0;
    private int elements = 0;

    public static void main(String[] args) {
        RoomTest first = measured(new EchoLine());
        // A run may make a new object with each of its calls: 512 of them must find room.
        Check.is("objects of a new one", first.objects * 512 < 600000, true);
        Check.is("elements of a new one", first.elements * 512 < 7300000, true);
        EchoLine x = Check.loaded(SIX);
        RoomTest used = null;
        for (int round = 0; round < 160; round++) {
            x.keep(round % 2);
            x.type(round % 6, 13, 60);
            x.tick(1);
            if (round == 12) {
                used = measured(x);
            }
        }
        RoomTest last = measured(x);
        Check.is("no more objects with more calls", last.objects, used.objects);
        Check.is("no more elements with more calls", last.elements, used.elements);
        System.out.println("new: " + first.objects + " objects, " + first.elements + " fields and elements; used: "
            + last.objects + ", " + last.elements);
        Check.finish();
    }

    private static RoomTest measured(EchoLine x) {
        RoomTest room = new RoomTest();
        try {
            room.walk(x);
        } catch (IllegalAccessException e) {
            throw new IllegalStateException(e);
        }
        return room;
    }

    private void walk(Object root) throws IllegalAccessException {
        Set<Object> seen = Collections.newSetFromMap(new IdentityHashMap<>());
        Deque<Object> open = new ArrayDeque<>();
        open.add(root);
        while (!open.isEmpty()) {
            Object next = open.remove();
            if (seen.add(next)) {
                objects++;
                walkInto(next, open);
            }
        }
    }

    private void walkInto(Object next, Deque<Object> open) throws IllegalAccessException {
        if (next instanceof String) {
            elements += ((String) next).length();
        } else if (next.getClass().isArray()) {
            elements += Array.getLength(next);
            for (int i = 0; i < Array.getLength(next) && next instanceof Object[]; i++) {
                put(Array.get(next, i), open);
            }
        } else {
            for (Field field : next.getClass().getDeclaredFields()) {
                if (!Modifier.isStatic(field.getModifiers())) {
                    elements++;
                    field.setAccessible(true);
                    put(field.getType().isPrimitive() ? null : field.get(next), open);
                }
            }
        }
    }

    private static void put(Object reference, Deque<Object> open) {
        if (reference != null) {
            open.add(reference);
        }
    }
}
