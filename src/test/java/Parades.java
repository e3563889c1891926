import java.util.ArrayList;
import java.util.Arrays;
import java.util.IdentityHashMap;
import java.util.List;
import java.util.Map;
import java.util.TreeSet;

/** Parades to test on, the values outside a range, and what a refused call has to leave as it was. */
final class Parades {
  static final Class<?> PLACE = IndexOutOfBoundsException.class;
  static final Class<?> ARGUMENT = IllegalArgumentException.class;
  static final Class<?> STATE = IllegalStateException.class;

  /** Makes the same parade each time: an object may answer only 512 calls, fewer than all its answers need. */
  interface Made {
    FloatOrder make();
  }

  interface Call {
    long on(FloatOrder x);
  }

  /** 60 characters that are 7 floats. */
  static final String SIXTY = "h10!chbg;h11!chbg;h12!chbg;h13!chbg;h14!chbg;h15!chbg;h16!ch";

  /** Nothing in it. */
  static final Made EMPTY = FloatOrder::new;
  /** 3 floats, 2 bridges, 5 saved states, a part that is not complete in the buffer. */
  static final Made SMALL = Parades::small;
  /** 12 floats, 4 bridges, 6 saved states, 60 characters that are 7 floats. */
  static final Made FULL = () -> full(SIXTY);
  /** 12 floats, 4 bridges, 6 saved states, 60 characters that are not complete. */
  static final Made FULL_WRONG = () -> full(SIXTY.substring(0, 53) + ";h10!c;");

  private static final Map<Made, long[]> KNOWN = new IdentityHashMap<>();

  private Parades() {
  }

  private static FloatOrder small() {
    FloatOrder x = with("g60;g45;h20!cg");
    x.bridge(30, 45);
    x.bridge(10, 40);
    x.fold(0, true);
    x.set(0, 5);
    write(x, "h10!");
    return x;
  }

  private static FloatOrder full(String text) {
    FloatOrder x = with("h10!chbg;h22!g;b30;g47;c50;b61;g70;h83!ch;b90;c99");
    x.put(0, 3, 55, 0);
    x.put(11, 3, 66, 0);
    x.bridge(1, 80);
    x.bridge(50, 60);
    x.bridge(20, 40);
    x.bridge(30, 20);
    x.fold(3, true);
    x.set(1, 3);
    write(x, text);
    return x;
  }

  static FloatOrder with(String text) {
    FloatOrder x = new FloatOrder();
    write(x, text);
    x.putAll();
    return x;
  }

  static void write(FloatOrder x, String text) {
    for (int i = 0; i < text.length(); i++) {
      x.append(text.charAt(i));
    }
  }

  /** Carts of the heights 20, 21 and so on. */
  static FloatOrder carts(int floats) {
    FloatOrder x = new FloatOrder();
    for (int place = 0; place < floats; place++) {
      x.put(place, 0, 20 + place, 0);
    }
    return x;
  }

  /** Twelve floats at most, one behind the other, each put as kind, height and mask. */
  static FloatOrder of(int[]... floats) {
    FloatOrder x = new FloatOrder();
    for (int place = 0; place < floats.length; place++) {
      x.put(place, floats[place][0], floats[place][1], floats[place][2]);
    }
    return x;
  }

  static int[] numbers(List<Integer> list) {
    return list.stream().mapToInt(Integer::intValue).toArray();
  }

  static void property(String what, FloatOrder x, int property, int... due) {
    Check.same(what + ": floats", x.count(0), due.length);
    for (int place = 0; place < due.length && place < x.count(0); place++) {
      Check.same(what + ": floatAt(" + place + ", " + property + ")", x.floatAt(place, property), due[place]);
    }
  }

  static void heights(String what, FloatOrder x, int... due) {
    property(what, x, 1, due);
  }

  /** What lies just outside a range, far outside it, and outside it until it is cut to eight or sixteen bits. */
  static int[] outside(int least, int greatest) {
    TreeSet<Integer> values = new TreeSet<>(List.of(least - 1, greatest + 1, Integer.MIN_VALUE, Integer.MAX_VALUE));
    for (int round : new int[] {256, 65536, 1 << 24}) {
      values.addAll(List.of(least - round, least + round, greatest - round, greatest + round));
    }
    values.removeIf(value -> value >= least && value <= greatest);
    return numbers(new ArrayList<>(values));
  }

  static Class<?> thrown(FloatOrder x, Call call) {
    try {
      call.on(x);
      return null;
    } catch (RuntimeException e) {
      return e.getClass();
    }
  }

  static void answered(String what, Made made, Call call) {
    Class<?> thrown = thrown(made.make(), call);
    Check.holds(what + " threw " + thrown, thrown == null);
  }

  /** The call throws just the exception that is due, and every later answer is as if it had not been. */
  static void refused(String what, Made made, Class<?> due, Call call) {
    Class<?> thrown = thrown(made.make(), call);
    Check.holds(what + " threw " + thrown + ", due is " + due, thrown == due);
    leavesAllAsItWas(what, made, call);
  }

  /** The call answers the same each time, and every later answer is as if it had not been. */
  static void looksAlone(String what, Made made, Call call) {
    answered(what, made, call);
    FloatOrder x = made.make();
    Check.same(what + " once more", call.on(x), call.on(x));
    leavesAllAsItWas(what, made, call);
  }

  private static void leavesAllAsItWas(String what, Made made, Call call) {
    long[] before = KNOWN.computeIfAbsent(made, own -> answers(own, x -> 0));
    Check.holds(what + " changed an answer", Arrays.equals(answers(made, call), before));
  }

  private static long[] answers(Made made, Call first) {
    List<Long> all = new ArrayList<>();
    looks(after(made, first), all);
    moves(after(made, first), all);
    texts(after(made, first), all);
    savedStates(after(made, first), all);
    return all.stream().mapToLong(Long::longValue).toArray();
  }

  private static FloatOrder after(Made made, Call first) {
    FloatOrder x = made.make();
    thrown(x, first);
    return x;
  }

  private static void looks(FloatOrder x, List<Long> all) {
    all.add(x.digest());
    for (int what = 0; what <= 8; what++) {
      all.add((long) x.count(what));
    }
    for (int setting = 0; setting <= 3; setting++) {
      all.add((long) x.setting(setting));
    }
    int bridges = x.count(1);
    for (int bridge = 0; bridge < bridges; bridge++) {
      for (int what = 0; what <= 2; what++) {
        all.add((long) x.bridgeOf(bridge, what));
      }
    }
    int floats = x.count(0);
    for (int place = 0; place < floats; place++) {
      for (int what = 0; what <= 6; what++) {
        all.add((long) x.floatAt(place, what));
      }
      for (int reason = 0; reason <= 2; reason++) {
        all.add((long) x.trouble(place, reason));
      }
      for (int bridge = -1; bridge < bridges; bridge++) {
        all.add((long) x.comes(place, bridge));
      }
      all.add((long) x.bestPlace(place));
    }
    all.add((long) x.bestFold());
    all.add((long) x.leastTrouble());
    all.add(Double.doubleToRawLongBits(x.smoothness()));
    all.add((long) x.firstError());
  }

  private static void moves(FloatOrder x, List<Long> all) {
    int floats = x.count(0);
    for (int place = 0; place < floats; place++) {
      for (int to = 0; to < floats; to++) {
        all.add((long) x.ifMoved(place, to, 0));
        all.add((long) x.ifMoved(place, to, 1));
      }
    }
  }

  private static void texts(FloatOrder x, List<Long> all) {
    all.add((long) x.firstError());
    Class<?> thrown = thrown(x, FloatOrder::putAll);
    all.add(thrown == null ? 0L : thrown.getName().hashCode());
    all.add(x.digest());
    all.add((long) x.clearBuffer());
    all.add(x.digest());
  }

  private static void savedStates(FloatOrder x, List<Long> all) {
    while (x.count(8) > 0 && all.size() < 10000) {
      all.add((long) x.undo());
      all.add(x.digest());
    }
  }
}
