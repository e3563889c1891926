import java.lang.reflect.InvocationTargetException;
import java.lang.reflect.Method;
import java.util.ArrayList;
import java.util.List;
import java.util.TreeMap;
import java.util.regex.Matcher;
import java.util.regex.Pattern;

/**
 * Runs of calls, chosen by a fixed row of numbers, on a FloatOrder and on a model that follows the document's words
 * as slowly and as plainly as it can: every answer, every exception and every digest has to be the same.
 */
public final class ModelTest {
  private static final int RUNS = 260;
  private static final int CALLS = 512;

  private static final String[] NAMES = {"put", "remove", "move", "exchange", "fold", "arrange", "bridge", "unbridge",
      "set", "append", "clearBuffer", "putAll", "undo", "firstError", "floatAt", "trouble", "comes", "bridgeOf", "count",
      "setting", "ifMoved", "bestPlace", "bestFold", "leastTrouble", "smoothness"};

  private static long seed = 20261119L;

  public static void main(String[] args) throws IllegalAccessException {
    for (int run = 0; run < RUNS; run++) {
      oneRun(run);
    }
    Check.holds("too few calls answered without an exception", answered > RUNS * CALLS / 2);
    Check.holds("too few calls refused", refused > RUNS * CALLS / 50);
    Check.end("ModelTest");
  }

  private static int answered = 0;
  private static int refused = 0;

  private static int below(int bound) {
    seed = seed * 6364136223846793005L + 1442695040888963407L;
    return (int) Long.remainderUnsigned(seed >>> 33, bound);
  }

  private static void oneRun(int run) throws IllegalAccessException {
    FloatOrder real = new FloatOrder();
    Model model = new Model();
    // Some runs stay small, so that all orders are tried; in every third one much is undone.
    int most = 2 + run % 11;
    int calls = 0;
    while (calls < CALLS) {
      int[] call = choose(model, most);
      String due = answer(model, call);
      String got = answer(real, call);
      calls++;
      if (!due.equals(got)) {
        Check.fail("run " + run + ", call " + calls + ": " + told(call) + " answered " + got + ", due is " + due);
        return;
      }
      if (due.startsWith("java")) {
        refused++;
      } else {
        answered++;
      }
      if (calls < CALLS && calls % 3 == 0) {
        calls++;
        long digest = real.digest();
        Check.same("run " + run + ", call " + calls + ", after " + told(call) + ": digest", digest, model.digest());
      }
    }
  }

  private static String told(int[] call) {
    StringBuilder text = new StringBuilder(NAMES[call[0]]);
    for (int i = 1; i < call.length; i++) {
      text.append(' ').append(call[i]);
    }
    return text.toString();
  }

  // ---- the calls

  private static int odd(int usual) {
    int[] others = {-1, -2, usual + 1, 12, 13, 100, Integer.MAX_VALUE, Integer.MIN_VALUE};
    return below(25) == 0 ? others[below(others.length)] : usual;
  }

  private static int place(Model model) {
    int floats = model.floats.size();
    return odd(floats == 0 ? 0 : below(floats));
  }

  private static int[] choose(Model model, int most) {
    int floats = model.floats.size();
    if (most % 3 == 0 && below(5) < 2) {
      return new int[] {12};
    }
    switch (below(34)) {
      case 0: case 1: case 2: case 3: case 4:
        if (floats >= most && below(8) != 0) {
          return new int[] {1, place(model)};
        }
        int kind = odd(below(4));
        return new int[] {0, odd(below(floats + 1)), kind, odd(10 + below(90)),
            kind == 1 || below(20) == 0 ? odd(below(16)) : 0};
      case 5:
        return new int[] {1, place(model)};
      case 6: case 7:
        return new int[] {2, place(model), place(model)};
      case 8: case 9:
        return new int[] {3, place(model), place(model)};
      case 10: case 11:
        return new int[] {4, place(model), below(3)};
      case 12:
        return new int[] {5};
      case 13: case 14:
        return new int[] {6, odd(1 + below(below(4) == 0 ? 50 : 12)), odd(10 + below(90))};
      case 15:
        return new int[] {7, odd(below(model.bridges.size() + 1))};
      case 16: case 17:
        int setting = below(4);
        int[] spread = {7, 10, 10, 22};
        return new int[] {8, odd(setting), odd(below(spread[setting]))};
      case 18: case 19:
        return new int[] {9, below(20) == 0 ? odd(33 + below(94)) : likelyCharacter(model.buffer)};
      case 20: case 21: case 22: case 23:
        return new int[] {9, likelyCharacter(model.buffer)};
      case 24:
        boolean isStuck = !Model.begins(model.buffer);
        return new int[] {below(isStuck ? 2 : 12) == 0 ? 10 : 11};
      case 25:
        return new int[] {12};
      case 26:
        return below(3) == 0 ? new int[] {13} : new int[] {14, place(model), odd(below(7))};
      case 27:
        return new int[] {15, place(model), odd(below(3))};
      case 28:
        return new int[] {16, place(model), odd(below(model.bridges.size() + 1) - 1)};
      case 29:
        return new int[] {17, odd(below(model.bridges.size() + 1)), odd(below(3))};
      case 30:
        return below(3) == 0 ? new int[] {19, odd(below(4))} : new int[] {18, odd(below(9))};
      case 31:
        return new int[] {20, place(model), place(model), odd(below(2))};
      case 32:
        return new int[] {21, place(model)};
      default:
        return new int[] {22 + below(3)};
    }
  }

  /** Mostly a character that goes on with floats as a text. */
  private static int likelyCharacter(String buffer) {
    String signs = "chbg;!0123456789";
    for (int tries = 0; tries < 40; tries++) {
      char sign = signs.charAt(below(signs.length()));
      if (Model.begins(buffer + sign)) {
        return sign;
      }
    }
    return signs.charAt(below(signs.length()));
  }

  /** What a call answers, or the name of the exception that it throws: the model has the methods of the class. */
  private static String answer(Object target, int[] call) throws IllegalAccessException {
    Method method = methodOf(target, NAMES[call[0]]);
    Object[] arguments = new Object[call.length - 1];
    for (int i = 0; i < arguments.length; i++) {
      boolean isTruth = method.getParameterTypes()[i] == boolean.class;
      arguments[i] = isTruth ? (Object) (call[i + 1] != 0) : (Object) call[i + 1];
    }
    try {
      Object result = method.invoke(target, arguments);
      return result instanceof Double share ? "bits " + Double.doubleToRawLongBits(share) : result.toString();
    } catch (InvocationTargetException e) {
      return e.getCause().getClass().getName();
    }
  }

  private static Method methodOf(Object target, String name) {
    for (Method method : target.getClass().getDeclaredMethods()) {
      if (method.getName().equals(name)) {
        return method;
      }
    }
    throw new IllegalStateException("no method " + name);
  }

  /** A float that never changes; folding makes another one. */
  private record Wagon(int kind, int height, int mask, boolean folded) {
    int counted() {
      return folded ? Math.max(10, height - 20) : height;
    }
  }

  private record State(List<Wagon> floats, TreeMap<Integer, Integer> bridges, int[] settings) {
  }

  private static final class Model {
    private static final String PART = "([cbg][1-9][0-9]|h[1-9][0-9](!(?=[chbg])c?h?b?g?)?)";
    private static final Pattern TEXT = Pattern.compile(PART + "(;" + PART + ")*");

    List<Wagon> floats = new ArrayList<>();
    TreeMap<Integer, Integer> bridges = new TreeMap<>();
    int[] settings = {3, 2, 2, 4};
    String buffer = "";
    final List<State> saved = new ArrayList<>();

    // ---- what every call looks at first

    private static void place(boolean is) {
      if (!is) {
        throw new IndexOutOfBoundsException();
      }
    }

    private static void argument(boolean is) {
      if (!is) {
        throw new IllegalArgumentException();
      }
    }

    private static void state(boolean is) {
      if (!is) {
        throw new IllegalStateException();
      }
    }

    private static boolean within(int value, int least, int greatest) {
      return value >= least && value <= greatest;
    }

    private void isFloat(int place) {
      place(within(place, 0, floats.size() - 1));
    }

    private void isBridge(int bridge) {
      place(within(bridge, 0, bridges.size() - 1));
    }

    private void save() {
      saved.add(new State(new ArrayList<>(floats), new TreeMap<>(bridges), settings.clone()));
      if (saved.size() > 6) {
        saved.remove(0);
      }
    }

    // ---- trouble and times of any order

    private int troubleIn(List<Wagon> order, int p, int reason) {
      Wagon own = order.get(p);
      int trouble = 0;
      for (int q = 0; q < p; q++) {
        int kind = order.get(q).kind();
        if (reason == 0 && (own.mask() & 1 << kind) != 0) {
          trouble += q == p - 1 ? 3 : q == p - 2 ? 1 : 0;
        }
        if (reason == 1 && own.kind() == 2 && kind == 2 && p - q < settings[0]) {
          trouble += 1;
        }
        if (reason == 2 && own.kind() == 3 && kind == 3 && q == p - 1) {
          trouble += 2;
        }
      }
      return trouble;
    }

    private int troubleIn(List<Wagon> order, int p) {
      return troubleIn(order, p, 0) + troubleIn(order, p, 1) + troubleIn(order, p, 2);
    }

    private int troubleIn(List<Wagon> order) {
      int trouble = 0;
      for (int p = 0; p < order.size(); p++) {
        trouble += troubleIn(order, p);
      }
      return trouble;
    }

    /** When each float comes to each bridge and to the end. */
    private int[][] timesIn(List<Wagon> order, boolean lowering) {
      List<Integer> distances = new ArrayList<>(bridges.keySet());
      distances.add(60);
      int stops = distances.size();
      int[][] come = new int[order.size()][stops];
      int[][] leave = new int[order.size()][stops];
      for (int p = 0; p < order.size(); p++) {
        for (int s = 0; s < stops; s++) {
          int ahead = s == 0 ? 0 : distances.get(s - 1);
          int start = s == 0 ? p * settings[1] : leave[p][s - 1];
          come[p][s] = start + (distances.get(s) - ahead) * settings[2];
          if (p > 0 && leave[p - 1][s] + settings[1] > come[p][s]) {
            come[p][s] = leave[p - 1][s] + settings[1];
          }
          boolean lowered = lowering && s < stops - 1 && order.get(p).counted() > bridges.get(distances.get(s));
          leave[p][s] = come[p][s] + (lowered ? settings[3] : 0);
        }
      }
      return come;
    }

    private int endIn(List<Wagon> order, boolean lowering) {
      if (order.isEmpty()) {
        return 0;
      }
      return timesIn(order, lowering)[order.size() - 1][bridges.size()];
    }

    private static List<Wagon> moved(List<Wagon> order, int place, int to) {
      List<Wagon> other = new ArrayList<>(order);
      other.add(to, other.remove(place));
      return other;
    }

    private static List<Wagon> exchanged(List<Wagon> order, int place, int to) {
      List<Wagon> other = new ArrayList<>(order);
      other.set(place, order.get(to));
      other.set(to, order.get(place));
      return other;
    }

    private static List<Wagon> folded(List<Wagon> order, int place, boolean is) {
      List<Wagon> other = new ArrayList<>(order);
      Wagon own = order.get(place);
      other.set(place, new Wagon(own.kind(), own.height(), own.mask(), is));
      return other;
    }

    private int lowered(int place) {
      int number = 0;
      for (int clearance : bridges.values()) {
        number += floats.get(place).counted() > clearance ? 1 : 0;
      }
      return number;
    }

    // ---- the calls

    int put(int place, int kind, int height, int shies) {
      place(within(place, 0, floats.size()));
      argument(within(kind, 0, 3) && within(height, 10, 99) && within(shies, 0, kind == 1 ? 15 : 0));
      state(floats.size() < 12);
      save();
      floats.add(place, new Wagon(kind, height, shies, false));
      return floats.size();
    }

    int remove(int place) {
      isFloat(place);
      save();
      floats.remove(place);
      return floats.size();
    }

    int move(int place, int to) {
      isFloat(place);
      isFloat(to);
      save();
      floats = moved(floats, place, to);
      return troubleIn(floats);
    }

    int exchange(int place, int other) {
      isFloat(place);
      isFloat(other);
      save();
      floats = exchanged(floats, place, other);
      return troubleIn(floats);
    }

    int fold(int place, boolean is) {
      isFloat(place);
      save();
      floats = folded(floats, place, is);
      return floats.get(place).counted();
    }

    int arrange() {
      save();
      for (int done = 0; ; done++) {
        long own = worth(floats);
        long least = Long.MAX_VALUE;
        List<Wagon> best = null;
        for (int i = 0; i < floats.size(); i++) {
          for (int j = i + 1; j < floats.size(); j++) {
            List<Wagon> order = exchanged(floats, i, j);
            if (worth(order) < own && worth(order) < least) {
              least = worth(order);
              best = order;
            }
          }
        }
        if (best == null) {
          return done;
        }
        floats = best;
      }
    }

    private long worth(List<Wagon> order) {
      return troubleIn(order) * 1000000L + endIn(order, true);
    }

    int bridge(int distance, int clearance) {
      argument(within(distance, 1, 50) && within(clearance, 10, 99));
      state(bridges.size() < 4 && !bridges.containsKey(distance));
      save();
      bridges.put(distance, clearance);
      return bridges.headMap(distance).size();
    }

    int unbridge(int bridge) {
      isBridge(bridge);
      save();
      int distance = distance(bridge);
      bridges.remove(distance);
      return distance;
    }

    private int distance(int bridge) {
      return new ArrayList<>(bridges.keySet()).get(bridge);
    }

    int set(int setting, int value) {
      place(within(setting, 0, 3));
      argument(within(value, setting == 3 ? 0 : 1, setting == 0 ? 6 : setting == 3 ? 20 : 9));
      save();
      int previous = settings[setting];
      settings[setting] = value;
      return previous;
    }

    int append(int code) {
      argument(within(code, 33, 126));
      state(buffer.length() < 60);
      buffer += (char) code;
      return buffer.length();
    }

    int clearBuffer() {
      int length = buffer.length();
      buffer = "";
      return length;
    }

    static boolean begins(String text) {
      Matcher matcher = TEXT.matcher(text);
      return matcher.matches() || matcher.hitEnd();
    }

    int firstError() {
      for (int i = 0; i < buffer.length(); i++) {
        if (!begins(buffer.substring(0, i + 1))) {
          return i;
        }
      }
      return buffer.length();
    }

    int putAll() {
      argument(TEXT.matcher(buffer).matches());
      String[] parts = buffer.split(";");
      state(floats.size() + parts.length <= 12);
      save();
      for (String part : parts) {
        int mask = 0;
        for (int i = 4; i < part.length(); i++) {
          mask |= 1 << "chbg".indexOf(part.charAt(i));
        }
        floats.add(new Wagon("chbg".indexOf(part.charAt(0)), Integer.parseInt(part.substring(1, 3)), mask, false));
      }
      buffer = "";
      return floats.size();
    }

    int undo() {
      state(!saved.isEmpty());
      State latest = saved.remove(saved.size() - 1);
      floats = latest.floats();
      bridges = latest.bridges();
      settings = latest.settings();
      return saved.size();
    }

    int floatAt(int place, int what) {
      isFloat(place);
      argument(within(what, 0, 6));
      Wagon own = floats.get(place);
      int[] properties = {own.kind(), own.height(), own.mask(), own.folded() ? 1 : 0, own.counted(), lowered(place),
          troubleIn(floats, place)};
      return properties[what];
    }

    int trouble(int place, int reason) {
      isFloat(place);
      argument(within(reason, 0, 2));
      return troubleIn(floats, place, reason);
    }

    int comes(int place, int bridge) {
      isFloat(place);
      if (bridge != -1) {
        isBridge(bridge);
      }
      return timesIn(floats, true)[place][bridge == -1 ? bridges.size() : bridge];
    }

    int bridgeOf(int bridge, int what) {
      isBridge(bridge);
      argument(within(what, 0, 2));
      int distance = distance(bridge);
      int number = 0;
      for (Wagon wagon : floats) {
        number += wagon.counted() > bridges.get(distance) ? 1 : 0;
      }
      int[] properties = {distance, bridges.get(distance), number};
      return properties[what];
    }

    int count(int what) {
      argument(within(what, 0, 8));
      int lowered = 0;
      int troubled = 0;
      int greatest = 0;
      for (int p = 0; p < floats.size(); p++) {
        lowered += lowered(p) > 0 ? 1 : 0;
        troubled += troubleIn(floats, p) > 0 ? 1 : 0;
        greatest = Math.max(greatest, floats.get(p).counted());
      }
      int end = endIn(floats, true);
      int[] numbers = {floats.size(), bridges.size(), troubleIn(floats), end, lowered, troubled,
          end - endIn(floats, false), greatest, saved.size()};
      return numbers[what];
    }

    int setting(int setting) {
      place(within(setting, 0, 3));
      return settings[setting];
    }

    int ifMoved(int place, int to, int what) {
      isFloat(place);
      isFloat(to);
      argument(within(what, 0, 1));
      List<Wagon> order = moved(floats, place, to);
      return what == 0 ? troubleIn(order) : endIn(order, true);
    }

    int bestPlace(int place) {
      isFloat(place);
      int best = 0;
      for (int to = 1; to < floats.size(); to++) {
        if (worth(moved(floats, place, to)) < worth(moved(floats, place, best))) {
          best = to;
        }
      }
      return best;
    }

    int bestFold() {
      int best = -1;
      for (int p = 0; p < floats.size(); p++) {
        if (!floats.get(p).folded()
            && (best < 0 || endIn(folded(floats, p, true), true) < endIn(folded(floats, best, true), true))) {
          best = p;
        }
      }
      return best;
    }

    int leastTrouble() {
      return floats.size() > 6 ? -1 : leastOf(new ArrayList<>(), floats);
    }

    private int leastOf(List<Wagon> ahead, List<Wagon> rest) {
      if (rest.isEmpty()) {
        return troubleIn(ahead);
      }
      int least = Integer.MAX_VALUE;
      for (int i = 0; i < rest.size(); i++) {
        List<Wagon> longer = new ArrayList<>(ahead);
        List<Wagon> shorter = new ArrayList<>(rest);
        longer.add(shorter.remove(i));
        least = Math.min(least, leastOf(longer, shorter));
      }
      return least;
    }

    double smoothness() {
      if (floats.isEmpty()) {
        return 1.0;
      }
      return (double) (floats.size() - count(5)) / floats.size();
    }

    long digest() {
      List<Long> values = new ArrayList<>();
      for (int what = 0; what <= 8; what++) {
        values.add((long) count(what));
      }
      for (int setting : settings) {
        values.add((long) setting);
      }
      for (int bridge = 0; bridge < bridges.size(); bridge++) {
        for (int what = 0; what <= 2; what++) {
          values.add((long) bridgeOf(bridge, what));
        }
      }
      for (int p = 0; p < floats.size(); p++) {
        for (int what = 0; what <= 6; what++) {
          values.add((long) floatAt(p, what));
        }
        for (int reason = 0; reason <= 2; reason++) {
          values.add((long) trouble(p, reason));
        }
        for (int bridge = 0; bridge < bridges.size(); bridge++) {
          values.add((long) comes(p, bridge));
        }
        values.add((long) comes(p, -1));
        values.add((long) bestPlace(p));
      }
      values.add((long) bestFold());
      values.add((long) leastTrouble());
      values.add(Double.doubleToLongBits(smoothness()));
      values.add((long) buffer.length());
      for (char c : buffer.toCharArray()) {
        values.add((long) c);
      }
      long hash = 2971;
      for (long value : values) {
        hash = 31 * hash + value;
      }
      return hash;
    }
  }
}
