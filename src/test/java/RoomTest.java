import java.lang.reflect.Array;
import java.lang.reflect.Field;
import java.lang.reflect.Modifier;
import java.util.ArrayList;
import java.util.Collections;
import java.util.IdentityHashMap;
import java.util.List;
import java.util.Set;

/**
 * "All calls of one run live in one room": what a parade is made of is counted, and is the same after all the calls that
 * change it, so that a run takes what one parade takes, and its exceptions.
 */
public final class RoomTest {
  private static final int MOST_OBJECTS = 100;
  private static final int MOST_FIELDS_AND_ELEMENTS = 1000;

  public static void main(String[] args) throws IllegalAccessException {
    aNewObject();
    afterAllCalls();
    Check.end("RoomTest");
  }

  private static void aNewObject() throws IllegalAccessException {
    FloatOrder x = new FloatOrder();
    Set<Object> room = roomOf(x);
    Check.holds(room.size() + " objects", room.size() <= MOST_OBJECTS);
    int size = 0;
    for (Object object : room) {
      size += sizeOf(object);
    }
    Check.holds(size + " fields and elements", size <= MOST_FIELDS_AND_ELEMENTS);
    Set<Object> other = roomOf(new FloatOrder());
    other.retainAll(room);
    Check.same("objects that two parades share", other.size(), 0);
  }

  /** 512 calls of all kinds, most of them on a full parade with six saved states. */
  private static void afterAllCalls() throws IllegalAccessException {
    FloatOrder x = new FloatOrder();
    Set<Object> before = roomOf(x);
    Parades.write(x, Parades.SIXTY);
    x.putAll();
    for (int place = 7; place < 12; place++) {
      x.put(place, 2, 90, 0);
    }
    for (int bridge = 0; bridge < 4; bridge++) {
      x.bridge(10 + bridge, 20);
    }
    int calls = 60 + 1 + 5 + 4;
    for (int round = 0; calls + 17 <= 512; round++) {
      changes(x, round);
      looks(x, round);
      calls += 17;
    }
    Set<Object> after = roomOf(x);
    Check.same("objects", after.size(), before.size());
    Check.holds("the same objects", after.containsAll(before));
  }

  private static void changes(FloatOrder x, int round) {
    x.move(round % 12, 5);
    x.exchange(round % 12, 11 - round % 12);
    x.fold(round % 12, round % 2 == 0);
    x.arrange();
    x.unbridge(round % 4);
    x.undo();
    x.set(3, round % 21);
    x.clearBuffer();
    x.append('c');
  }

  private static void looks(FloatOrder x, int round) {
    x.digest();
    x.bestPlace(round % 12);
    x.bestFold();
    x.leastTrouble();
    x.ifMoved(round % 12, 3, 1);
    x.comes(11, round % 4);
    Parades.thrown(x, y -> y.put(0, 0, 20, 0));
    Parades.thrown(x, FloatOrder::putAll);
  }

  // ---- what is reached from an object

  private static Set<Object> roomOf(Object first) throws IllegalAccessException {
    Set<Object> room = Collections.newSetFromMap(new IdentityHashMap<>());
    List<Object> open = new ArrayList<>(List.of(first));
    while (!open.isEmpty()) {
      Object object = open.remove(open.size() - 1);
      if (room.add(object)) {
        open.addAll(reachedFrom(object));
      }
    }
    return room;
  }

  private static List<Object> reachedFrom(Object object) throws IllegalAccessException {
    List<Object> reached = new ArrayList<>();
    if (object instanceof Object[] elements) {
      for (Object element : elements) {
        Check.holds("an element is null", element != null);
        reached.add(element);
      }
    } else if (!object.getClass().isArray()) {
      for (Field field : object.getClass().getDeclaredFields()) {
        if (!Modifier.isStatic(field.getModifiers()) && !field.getType().isPrimitive()) {
          field.setAccessible(true);
          Check.holds(field + " is null", field.get(object) != null);
          reached.add(field.get(object));
        }
      }
    }
    return reached;
  }

  private static int sizeOf(Object object) {
    if (object.getClass().isArray()) {
      return Array.getLength(object);
    }
    int fields = 0;
    for (Field field : object.getClass().getDeclaredFields()) {
      fields += Modifier.isStatic(field.getModifiers()) ? 0 : 1;
    }
    return fields;
  }
}
