import java.util.function.DoubleSupplier;
import java.util.function.LongSupplier;

/** Every promise of the document by itself, with answers worked out by hand. */
public final class PromiseTest {
  private static final Class<?> PLACE = IndexOutOfBoundsException.class;
  private static final Class<?> ARGUMENT = IllegalArgumentException.class;
  private static final Class<?> STATE = IllegalStateException.class;

  public static void main(String[] args) {
    newObject();
    put();
    remove();
    move();
    exchange();
    fold();
    arrange();
    arrangeChoosesAmongSeveral();
    bridge();
    unbridge();
    set();
    append();
    clearBuffer();
    firstError();
    putAll();
    undo();
    floatAt();
    trouble();
    comes();
    bridgeOf();
    count();
    setting();
    ifMoved();
    bestPlace();
    bestFold();
    leastTrouble();
    smoothness();
    digest();
    everyUndoableCallSaves();
    looksChangeNothing();
    Check.end("PromiseTest");
  }

  // ---- helpers

  private static FloatOrder with(String text) {
    FloatOrder x = new FloatOrder();
    write(x, text);
    x.putAll();
    return x;
  }

  private static void write(FloatOrder x, String text) {
    for (int i = 0; i < text.length(); i++) {
      x.append(text.charAt(i));
    }
  }

  private static void refused(String what, FloatOrder x, Class<?> due, LongSupplier call) {
    long before = x.digest();
    Class<?> thrown = null;
    try {
      call.getAsLong();
    } catch (RuntimeException e) {
      thrown = e.getClass();
    }
    Check.holds(what + " threw " + thrown + ", due is " + due, thrown == due);
    Check.same(what + " changed the digest, which", x.digest(), before);
  }

  private static void property(String what, FloatOrder x, int property, int... due) {
    Check.same(what + ": floats", x.count(0), due.length);
    for (int place = 0; place < due.length && place < x.count(0); place++) {
      Check.same(what + ": floatAt(" + place + ", " + property + ")", x.floatAt(place, property), due[place]);
    }
  }

  private static void heights(String what, FloatOrder x, int... due) {
    property(what, x, 1, due);
  }

  private static long hashOf(long... values) {
    long hash = 2971;
    for (long value : values) {
      hash = 31 * hash + value;
    }
    return hash;
  }

  // ---- promises 1 to 7

  private static void newObject() {
    FloatOrder x = new FloatOrder();
    for (int what = 0; what <= 8; what++) {
      Check.same("new: count(" + what + ")", x.count(what), 0);
    }
    int[] settings = {3, 2, 2, 4};
    for (int setting = 0; setting < 4; setting++) {
      Check.same("new: setting(" + setting + ")", x.setting(setting), settings[setting]);
    }
    Check.same("new: firstError", x.firstError(), 0);
    Check.same("new: clearBuffer", x.clearBuffer(), 0);
    Check.same("new: NONE", FloatOrder.NONE, -1);
    refused("new: undo", x, STATE, x::undo);
    refused("new: floatAt", x, PLACE, () -> x.floatAt(0, 0));
    refused("new: bridgeOf", x, PLACE, () -> x.bridgeOf(0, 0));
    FloatOrder y = new FloatOrder();
    y.put(0, 0, 20, 0);
    Check.same("objects are apart", x.count(0), 0);
  }

  private static void put() {
    FloatOrder x = new FloatOrder();
    Check.same("put first", x.put(0, 0, 30, 0), 1);
    Check.same("put last", x.put(1, 1, 40, 5), 2);
    x.fold(1, true);
    Check.same("put between", x.put(1, 2, 50, 0), 3);
    Check.same("put ahead", x.put(0, 3, 99, 0), 4);
    heights("put", x, 99, 30, 50, 40);
    property("put", x, 0, 3, 0, 2, 1);
    property("put", x, 2, 0, 0, 0, 5);
    property("put", x, 3, 0, 0, 0, 1);
    Check.same("least height", x.put(4, 1, 10, 15), 5);
    Check.same("no shying", x.put(5, 1, 10, 0), 6);
    property("put at the edges", x, 2, 0, 0, 0, 5, 15, 0);
    refused("put(-1)", x, PLACE, () -> x.put(-1, 0, 30, 0));
    refused("put(7)", x, PLACE, () -> x.put(7, 0, 30, 0));
    refused("put(least)", x, PLACE, () -> x.put(Integer.MIN_VALUE, 9, 9, 9));
    refused("put(most)", x, PLACE, () -> x.put(Integer.MAX_VALUE, 0, 30, 0));
    refused("put kind -1", x, ARGUMENT, () -> x.put(0, -1, 30, 0));
    refused("put kind 4", x, ARGUMENT, () -> x.put(0, 4, 30, 0));
    refused("put height 9", x, ARGUMENT, () -> x.put(0, 0, 9, 0));
    refused("put height 100", x, ARGUMENT, () -> x.put(0, 0, 100, 0));
    refused("put shies -1", x, ARGUMENT, () -> x.put(0, 1, 30, -1));
    refused("put shies 16", x, ARGUMENT, () -> x.put(0, 1, 30, 16));
    for (int kind : new int[] {0, 2, 3}) {
      refused("put shying kind " + kind, x, ARGUMENT, () -> x.put(0, kind, 30, 1));
      refused("put shying kind " + kind, x, ARGUMENT, () -> x.put(0, kind, 30, -1));
    }
    for (int i = 6; i < 12; i++) {
      Check.same("put on", x.put(i, 0, 20, 0), i + 1);
    }
    refused("put into 12", x, STATE, () -> x.put(12, 0, 20, 0));
    refused("put into 12", x, STATE, () -> x.put(0, 0, 20, 0));
    refused("put into 12, wrong kind", x, ARGUMENT, () -> x.put(12, 4, 20, 0));
    refused("put into 12, wrong place", x, PLACE, () -> x.put(13, 4, 20, 0));
  }

  private static void remove() {
    FloatOrder x = with("c10;h20!cg;b30;g40");
    x.fold(3, true);
    Check.same("remove within", x.remove(1), 3);
    heights("remove within", x, 10, 30, 40);
    property("remove within", x, 0, 0, 2, 3);
    property("remove within", x, 2, 0, 0, 0);
    property("remove within", x, 3, 0, 0, 1);
    refused("remove(-1)", x, PLACE, () -> x.remove(-1));
    refused("remove(3)", x, PLACE, () -> x.remove(3));
    Check.same("remove the last", x.remove(2), 2);
    Check.same("remove the first", x.remove(0), 1);
    heights("remove the first", x, 30);
    Check.same("remove the only one", x.remove(0), 0);
    refused("remove from none", x, PLACE, () -> x.remove(0));
    x.put(0, 1, 50, 3);
    property("a float put later is not folded", x, 3, 0);
  }

  private static void move() {
    FloatOrder x = with("c10;h20!c;b30;g40;c50");
    Check.same("move back", x.move(0, 3), 0);
    heights("move back", x, 20, 30, 40, 10, 50);
    Check.same("move ahead", x.move(3, 0), 3);
    heights("move ahead", x, 10, 20, 30, 40, 50);
    Check.same("move to its own place", x.move(2, 2), 3);
    Check.same("move to the end", x.move(1, 4), 3);
    heights("move to the end", x, 10, 30, 40, 50, 20);
    property("move to the end", x, 2, 0, 0, 0, 0, 1);
    refused("move(-1, 0)", x, PLACE, () -> x.move(-1, 0));
    refused("move(5, 0)", x, PLACE, () -> x.move(5, 0));
    refused("move(0, -1)", x, PLACE, () -> x.move(0, -1));
    refused("move(0, 5)", x, PLACE, () -> x.move(0, 5));
  }

  private static void exchange() {
    FloatOrder x = with("g10;c20;g30;h40!g");
    x.fold(0, true);
    Check.same("exchange", x.exchange(0, 3), 2);
    heights("exchange", x, 40, 20, 30, 10);
    property("exchange", x, 0, 1, 0, 3, 3);
    property("exchange", x, 2, 8, 0, 0, 0);
    property("exchange", x, 3, 0, 0, 0, 1);
    Check.same("exchange the other way", x.exchange(3, 0), 3);
    heights("exchange the other way", x, 10, 20, 30, 40);
    Check.same("exchange with itself", x.exchange(1, 1), 3);
    refused("exchange(-1, 0)", x, PLACE, () -> x.exchange(-1, 0));
    refused("exchange(4, 0)", x, PLACE, () -> x.exchange(4, 0));
    refused("exchange(0, -1)", x, PLACE, () -> x.exchange(0, -1));
    refused("exchange(0, 4)", x, PLACE, () -> x.exchange(0, 4));
  }

  private static void fold() {
    FloatOrder x = with("c10;c29;c30;c31;c99");
    Check.same("fold 10", x.fold(0, true), 10);
    Check.same("fold 29", x.fold(1, true), 10);
    Check.same("fold 30", x.fold(2, true), 10);
    Check.same("fold 31", x.fold(3, true), 11);
    Check.same("fold 99", x.fold(4, true), 79);
    Check.same("fold once more", x.fold(4, true), 79);
    property("fold", x, 3, 1, 1, 1, 1, 1);
    heights("fold", x, 10, 29, 30, 31, 99);
    property("fold", x, 4, 10, 10, 10, 11, 79);
    Check.same("unfold", x.fold(4, false), 99);
    Check.same("unfold once more", x.fold(4, false), 99);
    property("unfold", x, 3, 1, 1, 1, 1, 0);
    refused("fold(-1)", x, PLACE, () -> x.fold(-1, true));
    refused("fold(5)", x, PLACE, () -> x.fold(5, false));
  }

  private static void arrange() {
    FloatOrder none = new FloatOrder();
    Check.same("arrange none", none.arrange(), 0);
    Check.same("arrange none saves", none.count(8), 1);
    FloatOrder one = with("g50");
    Check.same("arrange one", one.arrange(), 0);
    FloatOrder giants = with("g50;g60");
    Check.same("arrange what can't be better", giants.arrange(), 0);
    heights("arrange what can't be better", giants, 50, 60);
    // Only g c g is without trouble.
    FloatOrder x = with("c10;g20;g30");
    Check.same("arrange by trouble", x.arrange(), 1);
    heights("arrange by trouble", x, 20, 10, 30);
    Check.same("arrange by trouble: then", x.count(2), 0);
    Check.same("arrange saves once", x.count(8), 2);
    x.undo();
    heights("arrange, undone", x, 10, 20, 30);
    // Trouble 2 + 1; the first exchange that leaves 1 is (0, 3): b g b g c; from there (2, 4) leaves none: b g c g b.
    FloatOrder several = with("g10;g11;b12;b13;c14");
    Check.same("arrange by two exchanges", several.arrange(), 2);
    heights("arrange by two exchanges", several, 13, 11, 14, 10, 12);
    several.undo();
    heights("two exchanges are undone as one call", several, 10, 11, 12, 13, 14);
  }

  private static void arrangeChoosesAmongSeveral() {
    // Trouble 3 + 2; (0, 1) leaves 2, (0, 2) and (0, 3) leave none, and all end in the same minute.
    FloatOrder x = with("c10;h11!c;g12;g13;c14");
    Check.same("least trouble", x.arrange(), 1);
    heights("least trouble, then the lowest other place", x, 12, 11, 10, 13, 14);
    // No trouble; (0, 1) ends in 176 instead of 186, (0, 2) and (0, 3) in 166, the others in 186.
    FloatOrder y = waiting();
    Check.same("the end before", y.count(3), 186);
    Check.same("least end", y.arrange(), 1);
    Check.same("the end then", y.count(3), 166);
    heights("least end, then the lowest other place", y, 42, 41, 60, 43);
    // A lesser trouble counts more than an earlier end: (0, 3) would end in 166, but only (0, 1) and (2, 3) part the
    // giants, of them (0, 1) with the end 176; from there (1, 3) comes to 166 without trouble.
    FloatOrder z = waiting();
    z.remove(1);
    z.put(1, 3, 41, 0);
    z.remove(2);
    z.put(2, 3, 42, 0);
    Check.same("trouble before", z.count(2), 2);
    Check.same("trouble counts more", z.arrange(), 2);
    heights("trouble counts more", z, 41, 43, 42, 60);
    Check.same("the end at last", z.count(3), 166);
  }

  /** Four floats of which only the first one is lowered at the first two bridges, and each at the third one. */
  private static FloatOrder waiting() {
    FloatOrder x = with("c60;c41;c42;c43");
    x.bridge(10, 45);
    x.bridge(20, 45);
    x.bridge(30, 25);
    x.set(3, 10);
    return x;
  }

  // ---- promises 8 to 10

  private static void bridge() {
    FloatOrder x = new FloatOrder();
    Check.same("bridge in the middle", x.bridge(20, 40), 0);
    Check.same("bridge at the end", x.bridge(50, 99), 1);
    Check.same("bridge at the beginning", x.bridge(1, 10), 0);
    refused("bridge(0)", x, ARGUMENT, () -> x.bridge(0, 40));
    refused("bridge(51)", x, ARGUMENT, () -> x.bridge(51, 40));
    refused("clearance 9", x, ARGUMENT, () -> x.bridge(30, 9));
    refused("clearance 100", x, ARGUMENT, () -> x.bridge(30, 100));
    refused("same distance", x, STATE, () -> x.bridge(20, 41));
    refused("same distance, wrong clearance", x, ARGUMENT, () -> x.bridge(20, 9));
    Check.same("bridge between", x.bridge(30, 41), 2);
    int[] distances = {1, 20, 30, 50};
    int[] clearances = {10, 40, 41, 99};
    for (int number = 0; number < 4; number++) {
      Check.same("distance " + number, x.bridgeOf(number, 0), distances[number]);
      Check.same("clearance " + number, x.bridgeOf(number, 1), clearances[number]);
    }
    refused("a fifth bridge", x, STATE, () -> x.bridge(31, 40));
    refused("a fifth bridge, wrong distance", x, ARGUMENT, () -> x.bridge(51, 40));
    Check.same("bridges", x.count(1), 4);
  }

  private static void unbridge() {
    FloatOrder x = new FloatOrder();
    refused("unbridge none", x, PLACE, () -> x.unbridge(0));
    x.bridge(5, 15);
    x.bridge(10, 20);
    x.bridge(40, 80);
    refused("unbridge(-1)", x, PLACE, () -> x.unbridge(-1));
    refused("unbridge(3)", x, PLACE, () -> x.unbridge(3));
    Check.same("unbridge", x.unbridge(1), 10);
    Check.same("bridges", x.count(1), 2);
    Check.same("the next one", x.bridgeOf(1, 0), 40);
    Check.same("its clearance", x.bridgeOf(1, 1), 80);
    Check.same("built again", x.bridge(10, 33), 1);
    Check.same("unbridge the last", x.unbridge(2), 40);
    Check.same("unbridge the first", x.unbridge(0), 5);
    Check.same("what is left", x.bridgeOf(0, 1), 33);
  }

  private static void set() {
    int[] first = {3, 2, 2, 4};
    int[] least = {1, 1, 1, 0};
    int[] greatest = {6, 9, 9, 20};
    FloatOrder x = new FloatOrder();
    for (int setting = 0; setting < 4; setting++) {
      int s = setting;
      Check.same("set", x.set(s, greatest[s]), first[s]);
      Check.same("set", x.set(s, least[s]), greatest[s]);
      Check.same("set", x.setting(s), least[s]);
      refused("set too little", x, ARGUMENT, () -> x.set(s, least[s] - 1));
      refused("set too much", x, ARGUMENT, () -> x.set(s, greatest[s] + 1));
    }
    refused("set(-1)", x, PLACE, () -> x.set(-1, 3));
    refused("set(4)", x, PLACE, () -> x.set(4, 3));
    refused("set(4), wrong value", x, PLACE, () -> x.set(4, -5));
  }

  // ---- promises 11 to 15

  private static void append() {
    FloatOrder x = new FloatOrder();
    refused("append 32", x, ARGUMENT, () -> x.append(32));
    refused("append 127", x, ARGUMENT, () -> x.append(127));
    refused("append -1", x, ARGUMENT, () -> x.append(-1));
    Check.same("append 33", x.append(33), 1);
    for (int length = 2; length <= 60; length++) {
      Check.same("append 126", x.append(126), length);
    }
    refused("append to 60", x, STATE, () -> x.append(50));
    refused("append 32 to 60", x, ARGUMENT, () -> x.append(32));
    Check.same("append saves nothing", x.count(8), 0);
    Check.same("60 characters", x.clearBuffer(), 60);
    Check.same("append again", x.append(99), 1);
  }

  private static void clearBuffer() {
    FloatOrder x = new FloatOrder();
    write(x, "zz");
    Check.same("clearBuffer", x.clearBuffer(), 2);
    Check.same("clearBuffer again", x.clearBuffer(), 0);
    Check.same("clearBuffer saves nothing", x.count(8), 0);
    write(x, "c10");
    Check.same("what is appended then", x.putAll(), 1);
  }

  private static void error(String text, int due) {
    FloatOrder x = new FloatOrder();
    write(x, text);
    Check.same("firstError of " + text, x.firstError(), due);
    Check.same("firstError keeps the buffer of " + text, x.clearBuffer(), text.length());
  }

  private static void firstError() {
    for (String fine : new String[] {"", "c", "c1", "c10", "c99;", "h10", "h10!", "h10!c", "h10!chbg", "h10!g;",
        "h35!hg;b20;g99;c1", "b10;b10;b10;b10;b10;b10;b10;b10;b10;b10;b10;b10;b10;b10;b10", "h20!hb;g10"}) {
      error(fine, fine.length());
    }
    error("x", 0);
    error(";", 0);
    error("C10", 0);
    error("1", 0);
    error("!", 0);
    error("cc", 1);
    error("c0", 1);
    error("c;", 1);
    error("c1;", 2);
    error("c1:", 2);
    error("c1/", 2);
    error("c/", 1);
    error("c:", 1);
    error("c100", 3);
    error("c10!", 3);
    error("b10!c", 3);
    error("g10!c", 3);
    error("c10c", 3);
    error("c10;;", 4);
    error("c10;1", 4);
    error("h10c", 3);
    error("h10!;", 4);
    error("h10!1", 4);
    error("h10!!", 4);
    error("h10!cc", 5);
    error("h10!hc", 5);
    error("h10!gc", 5);
    error("h10!cbh", 6);
    error("h10!chbgc", 8);
    error("h10!c!", 5);
    error("h10!c1", 5);
    error("h10!g;h10!cg;g10!", 16);
    error("c10;xx;", 4);
  }

  private static void putAll() {
    FloatOrder x = with("c25");
    write(x, "h35!hg;b20;g99;h10!chbg;h11");
    int saved = x.count(8);
    Check.same("putAll", x.putAll(), 6);
    property("putAll", x, 0, 0, 1, 2, 3, 1, 1);
    heights("putAll", x, 25, 35, 20, 99, 10, 11);
    property("putAll", x, 2, 0, 10, 0, 0, 15, 0);
    property("putAll", x, 3, 0, 0, 0, 0, 0, 0);
    Check.same("putAll saves once", x.count(8), saved + 1);
    Check.same("putAll clears the buffer", x.clearBuffer(), 0);
    x.undo();
    heights("putAll, undone", x, 25);
    Check.same("undo leaves the buffer", x.clearBuffer(), 0);
    for (String wrong : new String[] {"", "c", "c1", "c10;", "h10!", "h10!c;", "c10;x", "c10x", "c10!c", "h10!hc",
        "x"}) {
      x.clearBuffer();
      write(x, wrong);
      refused("putAll of '" + wrong + "'", x, ARGUMENT, x::putAll);
      Check.same("the buffer stays", x.clearBuffer(), wrong.length());
    }
    write(x, "c10;c10;c10;c10;c10;c10;c10;c10;c10;c10;c10;c10");
    refused("putAll of too many", x, STATE, x::putAll);
    x.append(';');
    refused("putAll of too many, not complete", x, ARGUMENT, x::putAll);
    x.clearBuffer();
    write(x, "c10;c10;c10;c10;c10;c10;c10;c10;c10;c10;c11");
    Check.same("putAll up to 12", x.putAll(), 12);
    Check.same("the last one", x.floatAt(11, 1), 11);
    write(x, "c10");
    refused("putAll into 12", x, STATE, x::putAll);
    x.remove(5);
    Check.same("putAll then", x.putAll(), 12);
    FloatOrder y = new FloatOrder();
    write(y, "c10;c10;c10;c10;c10;c10;c10;c10;c10;c10;c10;c10;c10");
    refused("putAll of 13", y, STATE, y::putAll);
    // What stood folded at a place that is used again is not folded.
    FloatOrder z = with("c50;c60");
    z.fold(1, true);
    z.remove(1);
    write(z, "b70");
    z.putAll();
    property("a float of a text is not folded", z, 3, 0, 0);
  }

  private static void undo() {
    FloatOrder x = new FloatOrder();
    x.put(0, 0, 11, 0);
    x.put(1, 1, 12, 3);
    x.bridge(7, 11);
    x.fold(1, true);
    x.set(0, 5);
    x.unbridge(0);
    Check.same("saved", x.count(8), 6);
    x.append('q');
    x.remove(0);
    Check.same("at most 6 are saved", x.count(8), 6);
    Check.same("undo remove", x.undo(), 5);
    heights("undo remove", x, 11, 12);
    Check.same("undo unbridge", x.undo(), 4);
    Check.same("the bridge again", x.bridgeOf(0, 0), 7);
    Check.same("its clearance again", x.bridgeOf(0, 1), 11);
    Check.same("the setting yet", x.setting(0), 5);
    Check.same("undo set", x.undo(), 3);
    Check.same("the setting again", x.setting(0), 3);
    Check.same("folded yet", x.floatAt(1, 3), 1);
    Check.same("undo fold", x.undo(), 2);
    Check.same("not folded again", x.floatAt(1, 3), 0);
    Check.same("undo bridge", x.undo(), 1);
    Check.same("no bridge again", x.count(1), 0);
    Check.same("undo put", x.undo(), 0);
    heights("the oldest one was dropped", x, 11);
    refused("undo without a saved state", x, STATE, x::undo);
    Check.same("undo leaves the buffer", x.clearBuffer(), 1);
    x.put(0, 2, 30, 0);
    Check.same("saved after undo", x.count(8), 1);
    x.undo();
    heights("undo after undo", x, 11);
  }

  // ---- promises 16 to 21

  private static void floatAt() {
    FloatOrder x = with("h35!cg;c55;h40!c");
    x.bridge(10, 30);
    x.bridge(20, 40);
    x.fold(1, true);
    int[][] due = {{1, 35, 9, 0, 35, 1, 0}, {0, 55, 0, 1, 35, 1, 0}, {1, 40, 1, 0, 40, 1, 3}};
    for (int place = 0; place < 3; place++) {
      for (int what = 0; what < 7; what++) {
        Check.same("floatAt(" + place + ", " + what + ")", x.floatAt(place, what), due[place][what]);
      }
    }
    x.fold(1, false);
    Check.same("lowered at two bridges", x.floatAt(1, 5), 2);
    refused("floatAt(-1)", x, PLACE, () -> x.floatAt(-1, 0));
    refused("floatAt(3)", x, PLACE, () -> x.floatAt(3, 0));
    refused("floatAt(3, 7)", x, PLACE, () -> x.floatAt(3, 7));
    refused("floatAt(0, -1)", x, ARGUMENT, () -> x.floatAt(0, -1));
    refused("floatAt(0, 7)", x, ARGUMENT, () -> x.floatAt(0, 7));
  }

  private static void troubles(String text, int bandsApart, int reason, int... due) {
    FloatOrder x = with(text);
    x.set(0, bandsApart);
    for (int place = 0; place < due.length; place++) {
      String what = text + ", " + bandsApart + ": trouble(" + place + ", " + reason + ")";
      Check.same(what, x.trouble(place, reason), due[place]);
    }
  }

  private static void trouble() {
    troubles("c10;h10!c;h10!c;h10!c;h10!h;h10!h", 3, 0, 0, 3, 1, 0, 4, 4);
    troubles("g10;b10;h10!bg;h10!bg;h10!bg", 3, 0, 0, 0, 4, 1, 0);
    troubles("h10!chbg;c10;h10;h10!hb", 3, 0, 0, 0, 0, 3);
    troubles("b10;b10;b10;c10;b10;b10;b10", 1, 1, 0, 0, 0, 0, 0, 0, 0);
    troubles("b10;b10;b10;c10;b10;b10;b10", 2, 1, 0, 1, 1, 0, 0, 1, 1);
    troubles("b10;b10;b10;c10;b10;b10;b10", 3, 1, 0, 1, 2, 0, 1, 1, 2);
    troubles("b10;b10;b10;c10;b10;b10;b10", 6, 1, 0, 1, 2, 0, 3, 4, 4);
    troubles("b10;c10;c10;b10", 3, 1, 0, 0, 0, 0);
    troubles("b10;c10;c10;b10", 4, 1, 0, 0, 0, 1);
    troubles("g10;g10;g10;c10;g10", 3, 2, 0, 2, 2, 0, 0);
    troubles("g10;g10;b10;b10;c10", 3, 0, 0, 0, 0, 0, 0);
    FloatOrder x = with("g10;g10");
    refused("trouble(-1)", x, PLACE, () -> x.trouble(-1, 0));
    refused("trouble(2)", x, PLACE, () -> x.trouble(2, 0));
    refused("trouble(2, 3)", x, PLACE, () -> x.trouble(2, 3));
    refused("trouble(0, -1)", x, ARGUMENT, () -> x.trouble(0, -1));
    refused("trouble(0, 3)", x, ARGUMENT, () -> x.trouble(0, 3));
  }

  private static void minutes(FloatOrder x, int place, int... due) {
    for (int bridge = 0; bridge < due.length - 1; bridge++) {
      Check.same("comes(" + place + ", " + bridge + ")", x.comes(place, bridge), due[bridge]);
    }
    Check.same("comes(" + place + ", NONE)", x.comes(place, FloatOrder.NONE), due[due.length - 1]);
  }

  private static void comes() {
    FloatOrder x = with("c50;c20;c41;c40");
    minutes(x, 0, 120);
    minutes(x, 3, 126);
    x.bridge(10, 40);
    x.bridge(30, 45);
    minutes(x, 0, 20, 64, 128);
    minutes(x, 1, 26, 70, 130);
    minutes(x, 2, 28, 72, 132);
    minutes(x, 3, 34, 74, 134);
    x.set(1, 5);
    minutes(x, 0, 20, 64, 128);
    minutes(x, 1, 29, 73, 133);
    minutes(x, 2, 34, 78, 138);
    minutes(x, 3, 43, 83, 143);
    x.set(2, 1);
    x.set(3, 0);
    minutes(x, 0, 10, 30, 60);
    minutes(x, 3, 25, 45, 75);
    refused("comes(-1, 0)", x, PLACE, () -> x.comes(-1, 0));
    refused("comes(4, 0)", x, PLACE, () -> x.comes(4, 0));
    refused("comes(4, NONE)", x, PLACE, () -> x.comes(4, FloatOrder.NONE));
    refused("comes(0, 2)", x, PLACE, () -> x.comes(0, 2));
    refused("comes(0, -2)", x, PLACE, () -> x.comes(0, -2));
  }

  private static void bridgeOf() {
    FloatOrder x = with("c50;c20;c41;c40");
    x.bridge(30, 45);
    x.bridge(10, 40);
    int[][] due = {{10, 40, 2}, {30, 45, 1}};
    for (int bridge = 0; bridge < 2; bridge++) {
      for (int what = 0; what < 3; what++) {
        Check.same("bridgeOf(" + bridge + ", " + what + ")", x.bridgeOf(bridge, what), due[bridge][what]);
      }
    }
    x.fold(0, true);
    Check.same("folded: not lowered", x.bridgeOf(1, 2), 0);
    refused("bridgeOf(-1)", x, PLACE, () -> x.bridgeOf(-1, 0));
    refused("bridgeOf(2)", x, PLACE, () -> x.bridgeOf(2, 0));
    refused("bridgeOf(2, 3)", x, PLACE, () -> x.bridgeOf(2, 3));
    refused("bridgeOf(0, -1)", x, ARGUMENT, () -> x.bridgeOf(0, -1));
    refused("bridgeOf(0, 3)", x, ARGUMENT, () -> x.bridgeOf(0, 3));
  }

  private static void count() {
    FloatOrder x = with("g50;g60;b41;b40;h20!b");
    x.bridge(10, 40);
    x.bridge(30, 45);
    // Lowered: 50 and 60 at both bridges, 41 at the first; trouble: 2 + 1 + 4.
    // 50: 20, 64, 128. 60: 26, 70, 134. 41: 32, 76, 136. 40: 38, 78, 138. 20: 40, 80, 140.
    int[] due = {5, 2, 7, 140, 3, 3, 12, 60, 3};
    for (int what = 0; what < 9; what++) {
      Check.same("count(" + what + ")", x.count(what), due[what]);
    }
    x.fold(1, true);
    Check.same("the greatest height with one folded", x.count(7), 50);
    Check.same("lowered with one folded", x.count(4), 2);
    x.set(3, 0);
    Check.same("waiting for lowerings of no time", x.count(6), 0);
    Check.same("lowered in no time", x.count(4), 2);
    x.set(1, 9);
    x.set(2, 9);
    Check.same("the end", x.count(3), 540 + 36);
    Check.same("waiting", x.count(6), 0);
    refused("count(-1)", x, ARGUMENT, () -> x.count(-1));
    refused("count(9)", x, ARGUMENT, () -> x.count(9));
    FloatOrder none = new FloatOrder();
    none.bridge(10, 10);
    Check.same("the end without floats", none.count(3), 0);
    Check.same("waiting without floats", none.count(6), 0);
    Check.same("the greatest height without floats", none.count(7), 0);
  }

  private static void setting() {
    FloatOrder x = new FloatOrder();
    x.set(1, 7);
    Check.same("setting 0", x.setting(0), 3);
    Check.same("setting 1", x.setting(1), 7);
    Check.same("setting 2", x.setting(2), 2);
    Check.same("setting 3", x.setting(3), 4);
    refused("setting(-1)", x, PLACE, () -> x.setting(-1));
    refused("setting(4)", x, PLACE, () -> x.setting(4));
  }

  // ---- promises 22 to 27

  private static void ifMoved() {
    FloatOrder x = with("c10;h20!c;b30;g90;c50");
    x.bridge(10, 60);
    x.set(3, 10);
    long before = x.digest();
    Check.same("ifMoved trouble", x.ifMoved(0, 3, 0), 0);
    Check.same("ifMoved trouble", x.ifMoved(1, 4, 0), 3);
    Check.same("ifMoved trouble, same place", x.ifMoved(2, 2, 0), 3);
    Check.same("ifMoved end, as it is", x.ifMoved(3, 3, 1), 138);
    Check.same("ifMoved end", x.ifMoved(3, 0, 1), 138);
    x.set(3, 0);
    Check.same("ifMoved end, other lowering", x.ifMoved(3, 0, 1), 128);
    x.undo();
    Check.same("ifMoved changes nothing", x.digest(), before);
    refused("ifMoved(-1)", x, PLACE, () -> x.ifMoved(-1, 0, 0));
    refused("ifMoved(5)", x, PLACE, () -> x.ifMoved(5, 0, 0));
    refused("ifMoved(0, -1)", x, PLACE, () -> x.ifMoved(0, -1, 0));
    refused("ifMoved(0, 5)", x, PLACE, () -> x.ifMoved(0, 5, 0));
    refused("ifMoved(0, 5, 2)", x, PLACE, () -> x.ifMoved(0, 5, 2));
    refused("ifMoved(0, 0, -1)", x, ARGUMENT, () -> x.ifMoved(0, 0, -1));
    refused("ifMoved(0, 0, 2)", x, ARGUMENT, () -> x.ifMoved(0, 0, 2));
    FloatOrder y = waiting();
    int[] ends = {186, 176, 166, 166};
    for (int to = 0; to < 4; to++) {
      Check.same("ifMoved(0, " + to + ", 1)", y.ifMoved(0, to, 1), ends[to]);
    }
  }

  private static void bestPlace() {
    FloatOrder x = with("c10;h20!c;b30;g90;c50");
    // h c b g c (0) is without trouble, and so is c b g h c (3): the ends are the same.
    Check.same("bestPlace of the horses", x.bestPlace(1), 0);
    FloatOrder y = with("g10;g20;c30");
    Check.same("bestPlace of a giant", y.bestPlace(0), 2);
    Check.same("bestPlace of the other giant", y.bestPlace(1), 2);
    Check.same("bestPlace of the cart", y.bestPlace(2), 1);
    Check.same("bestPlace of the only one", with("c10").bestPlace(0), 0);
    FloatOrder z = with("c20;c90;c20");
    z.bridge(10, 50);
    z.set(3, 20);
    Check.same("all ends the same", z.bestPlace(1), 0);
    Check.same("of several with the least end the lowest", waiting().bestPlace(0), 2);
    FloatOrder w = with("c60;c40");
    w.bridge(10, 50);
    w.bridge(20, 30);
    w.set(3, 10);
    // 60, 40: 20-30, 50-60, 140; 32, 62-72, 152. 40, 60: 20, 40-50, 130; 22-32, 52-62, 142.
    Check.same("the end as it is", w.ifMoved(0, 0, 1), 152);
    Check.same("the end exchanged", w.ifMoved(0, 1, 1), 142);
    Check.same("bestPlace by the end", w.bestPlace(0), 1);
    Check.same("bestPlace by the end", w.bestPlace(1), 0);
    Check.same("arrange by the end", w.arrange(), 1);
    heights("arrange by the end", w, 40, 60);
    refused("bestPlace(-1)", w, PLACE, () -> w.bestPlace(-1));
    refused("bestPlace(2)", w, PLACE, () -> w.bestPlace(2));
  }

  private static void bestFold() {
    FloatOrder none = new FloatOrder();
    Check.same("bestFold of none", none.bestFold(), FloatOrder.NONE);
    FloatOrder x = with("c20;c60;c65;c95");
    Check.same("all the same: the lowest", x.bestFold(), 0);
    x.bridge(10, 50);
    // Each lowered float makes those behind it wait 4 minutes: folding 60 or 65 takes 4 off, folding 95 does nothing.
    Check.same("the lowest of several", x.bestFold(), 1);
    x.fold(1, true);
    Check.same("the next", x.bestFold(), 2);
    x.fold(2, true);
    Check.same("none helps: the lowest that is not folded", x.bestFold(), 0);
    x.fold(0, true);
    Check.same("the only one that is not folded", x.bestFold(), 3);
    x.fold(3, true);
    Check.same("all are folded", x.bestFold(), FloatOrder.NONE);
    x.fold(2, false);
    Check.same("one of them again", x.bestFold(), 2);
    Check.same("bestFold folds nothing", x.floatAt(2, 3), 0);
  }

  private static void leastTrouble() {
    Check.same("leastTrouble of none", new FloatOrder().leastTrouble(), 0);
    Check.same("of one", with("g10").leastTrouble(), 0);
    Check.same("of two giants", with("g10;g10").leastTrouble(), 2);
    Check.same("of giants that can be apart", with("g10;g10;c10").leastTrouble(), 0);
    Check.same("of three bands", with("b10;b10;b10").leastTrouble(), 3);
    Check.same("of shy horses", with("h10!h;h10!h;h10!h").leastTrouble(), 7);
    Check.same("of horses and a cart", with("c10;h10!c;h10!ch").leastTrouble(), 0);
    Check.same("of six giants", with("g10;g10;g10;g10;g10;g10").leastTrouble(), 10);
    Check.same("of six bands", with("b10;b10;b10;c10;c10;c10").leastTrouble(), 1);
    Check.same("of seven", with("c10;c10;c10;c10;c10;c10;c10").leastTrouble(), FloatOrder.NONE);
  }

  private static void smoothness() {
    share("none", new FloatOrder()::smoothness, 1.0);
    share("all smooth", with("c10;c20")::smoothness, 1.0);
    share("1 of 2", with("g10;g20")::smoothness, 0.5);
    share("2 of 3", with("g10;g20;c10")::smoothness, 2.0 / 3);
    share("1 of 3", with("g10;g20;g30")::smoothness, 1.0 / 3);
    share("1 of 12", with("g10;g10;g10;g10;g10;g10;g10;g10;g10;g10;g10;g10")::smoothness, 1.0 / 12);
    share("4 of 7, 2 troubles of one float", with("b10;b10;b10;c10;g10;g10;b10")::smoothness, 4.0 / 7);
  }

  private static void share(String what, DoubleSupplier answer, double due) {
    Check.sameShare("smoothness of " + what, answer.getAsDouble(), due);
  }

  private static void digest() {
    FloatOrder x = new FloatOrder();
    long one = Double.doubleToLongBits(1.0);
    Check.same("digest of a new one", x.digest(), hashOf(0, 0, 0, 0, 0, 0, 0, 0, 0, 3, 2, 2, 4, -1, 0, one, 0));
    write(x, "c~");
    Check.same("digest with a buffer", x.digest(),
        hashOf(0, 0, 0, 0, 0, 0, 0, 0, 0, 3, 2, 2, 4, -1, 0, one, 2, 99, 126));
    FloatOrder y = with("h35!h;h55!h");
    y.bridge(10, 40);
    y.bridge(20, 50);
    y.set(0, 6);
    y.fold(0, true);
    // 15: 20, 40, 120. 55: 22, 46, 130.
    Check.same("digest", y.digest(), hashOf(2, 2, 3, 130, 1, 1, 8, 55, 5, 6, 2, 2, 4,
        10, 40, 1, 20, 50, 1,
        1, 35, 2, 1, 15, 0, 0, 0, 0, 0, 20, 40, 120, 0,
        1, 55, 2, 0, 55, 2, 3, 3, 0, 0, 22, 46, 130, 0,
        1, 3, Double.doubleToLongBits(0.5), 0));
    // Every share of floats without trouble that a parade can have but 0: its bits stand in the digest.
    for (int floats = 1; floats <= 7; floats++) {
      FloatOrder giants = new FloatOrder();
      for (int i = 0; i < floats; i++) {
        giants.put(i, 3, 10, 0);
      }
      Check.same("digest of giants", giants.digest(), hashOfGiants(floats));
    }
  }

  private static long hashOfGiants(int floats) {
    int end = 120 + 2 * (floats - 1);
    int trouble = 2 * (floats - 1);
    long hash = hashOf(floats, 0, trouble, end, 0, floats - 1, 0, 10, Math.min(6, floats), 3, 2, 2, 4);
    for (int place = 0; place < floats; place++) {
      int own = place == 0 ? 0 : 2;
      long[] values = {3, 10, 0, 0, 10, 0, own, 0, 0, own, 120 + 2 * place, 0};
      for (long value : values) {
        hash = 31 * hash + value;
      }
    }
    long[] values = {0, floats <= 6 ? trouble : -1, Double.doubleToLongBits(1.0 / floats), 0};
    for (long value : values) {
      hash = 31 * hash + value;
    }
    return hash;
  }

  // ---- what many promises have in common

  private static void saves(String what, FloatOrder x, LongSupplier call) {
    long before = x.digest();
    int saved = x.count(8);
    call.getAsLong();
    Check.same(what + " saves a state, count(8)", x.count(8), saved + 1);
    Check.same(what + ", undone", x.undo(), saved);
    Check.same(what + ", undone, digest", x.digest(), before);
  }

  private static void everyUndoableCallSaves() {
    FloatOrder x = with("h35!chbg;g60;g90;b20;b15");
    x.bridge(10, 30);
    x.bridge(40, 70);
    x.fold(2, true);
    saves("put", x, () -> x.put(2, 1, 44, 9));
    saves("remove", x, () -> x.remove(2));
    saves("move", x, () -> x.move(0, 4));
    saves("move to the same place", x, () -> x.move(3, 3));
    saves("exchange", x, () -> x.exchange(0, 4));
    saves("exchange with itself", x, () -> x.exchange(2, 2));
    saves("fold", x, () -> x.fold(1, true));
    saves("fold a folded one", x, () -> x.fold(2, true));
    saves("unfold", x, () -> x.fold(2, false));
    saves("arrange", x, x::arrange);
    saves("bridge", x, () -> x.bridge(20, 44));
    saves("unbridge", x, () -> x.unbridge(0));
    saves("set", x, () -> x.set(3, 0));
    saves("set the same", x, () -> x.set(3, 4));
    FloatOrder y = with("c10");
    int saved = y.count(8);
    write(y, "c20;c30");
    y.putAll();
    Check.same("putAll saves one state", y.count(8), saved + 1);
    y.undo();
    heights("putAll, undone", y, 10);
    y.arrange();
    y.arrange();
    Check.same("arrange saves without a change", y.count(8), saved + 2);
  }

  private static void looksChangeNothing() {
    FloatOrder x = with("h35!chbg;g60;g90;b20;b15");
    x.bridge(10, 30);
    write(x, "h10!x");
    long before = x.digest();
    x.firstError();
    x.bestPlace(2);
    x.bestFold();
    x.leastTrouble();
    x.ifMoved(0, 4, 0);
    x.ifMoved(4, 0, 1);
    x.comes(4, 0);
    x.smoothness();
    Check.same("digest after looks", x.digest(), before);
    heights("looks", x, 35, 60, 90, 20, 15);
  }
}
