/** The boundaries of 'Bridges, times', of 'Settings', and of promises 8 to 10, 18 to 21. */
public final class BridgeEdgesTest {
  private static final int[] LEAST = {1, 1, 1, 0};
  private static final int[] GREATEST = {6, 9, 9, 20};
  private static final int[] AT_FIRST = {3, 2, 2, 4};

  public static void main(String[] args) {
    eachDistance();
    eachClearance();
    anotherDistance();
    fourBridgesAndNoMore();
    numbersByTheDistances();
    eachBridgeToTakeAway();
    eachValueOfEachSetting();
    settingOffByTheGap();
    minutesForAHundredMetres();
    theLengthOfTheWay();
    higherThanTheClearance();
    foldedUnderTheBridge();
    minutesOfLowering();
    theLaterOfTwoMinutes();
    theEndIsNoBridge();
    eachBridgeAndTheEnd();
    eachPropertyOfABridge();
    theFullWay();
    eachNumber();
    loweredFloatsCountOnce();
    withoutFloats();
    Check.end("BridgeEdgesTest");
  }

  private static FloatOrder bridged(String floats, int... distancesAndClearances) {
    FloatOrder x = Parades.with(floats);
    for (int i = 0; i < distancesAndClearances.length; i += 2) {
      x.bridge(distancesAndClearances[i], distancesAndClearances[i + 1]);
    }
    return x;
  }

  private static void bridges(String what, FloatOrder x, int property, int... due) {
    Check.same(what + ": bridges", x.count(1), due.length);
    for (int bridge = 0; bridge < due.length && bridge < x.count(1); bridge++) {
      Check.same(what + ": bridgeOf(" + bridge + ", " + property + ")", x.bridgeOf(bridge, property), due[bridge]);
    }
  }

  private static void minutes(String what, FloatOrder x, int place, int... due) {
    for (int bridge = 0; bridge < due.length - 1; bridge++) {
      Check.same(what + ": comes(" + place + ", " + bridge + ")", x.comes(place, bridge), due[bridge]);
    }
    Check.same(what + ": comes(" + place + ", NONE)", x.comes(place, FloatOrder.NONE), due[due.length - 1]);
  }

  // ---- promises 8 and 9

  /** "distance: 1 to 50". */
  private static void eachDistance() {
    for (int distance = 1; distance <= 50; distance++) {
      FloatOrder x = new FloatOrder();
      Check.same("bridge at " + distance, x.bridge(distance, 40), 0);
      Check.same("distance " + distance, x.bridgeOf(0, 0), distance);
    }
    Parades.refused("a bridge at 0", Parades.EMPTY, Parades.ARGUMENT, x -> x.bridge(0, 40));
    Parades.refused("a bridge at 51", Parades.EMPTY, Parades.ARGUMENT, x -> x.bridge(51, 40));
    Parades.refused("a bridge at the end", Parades.EMPTY, Parades.ARGUMENT, x -> x.bridge(60, 40));
  }

  /** "clearance: 10 to 99". */
  private static void eachClearance() {
    for (int clearance = 10; clearance <= 99; clearance++) {
      FloatOrder x = new FloatOrder();
      Check.same("bridge of " + clearance, x.bridge(20, clearance), 0);
      Check.same("clearance " + clearance, x.bridgeOf(0, 1), clearance);
    }
    Parades.refused("a clearance of 9", Parades.EMPTY, Parades.ARGUMENT, x -> x.bridge(20, 9));
    Parades.refused("a clearance of 100", Parades.EMPTY, Parades.ARGUMENT, x -> x.bridge(20, 100));
  }

  /** "each at another distance": one hundred metres is enough. */
  private static void anotherDistance() {
    for (int distance = 2; distance <= 49; distance++) {
      int own = distance;
      FloatOrder x = bridged("c20", distance, 40);
      Check.same("one farther than " + distance, x.bridge(distance + 1, 40), 1);
      Check.same("one nearer than " + distance, x.bridge(distance - 1, 40), 0);
      Parades.refused("at the same distance", () -> bridged("c20", own, 40), Parades.STATE, y -> y.bridge(own, 41));
    }
    FloatOrder x = bridged("c20", 1, 10, 50, 99);
    Check.same("take away the one at 50", x.unbridge(1), 50);
    Check.same("another one at 50", x.bridge(50, 98), 1);
    Check.same("take away the one at 1", x.unbridge(0), 1);
    Check.same("another one at 1", x.bridge(1, 11), 0);
    bridges("built again", x, 1, 11, 98);
  }

  /** "There are at most 4 bridges". */
  private static void fourBridgesAndNoMore() {
    FloatOrder x = bridged("c20", 10, 40, 20, 40, 30, 40);
    Check.same("the fourth bridge", x.bridge(40, 40), 3);
    Check.same("four bridges", x.count(1), 4);
    Parades.Made four = () -> bridged("c20", 10, 40, 20, 40, 30, 40, 40, 40);
    Parades.refused("a fifth one", four, Parades.STATE, y -> y.bridge(50, 40));
    Parades.refused("a fifth one ahead", four, Parades.STATE, y -> y.bridge(1, 40));
    Parades.refused("a fifth one at the same distance", four, Parades.STATE, y -> y.bridge(40, 40));
    Check.same("take one away", x.unbridge(3), 40);
    Check.same("a fourth one again", x.bridge(1, 40), 0);
    Check.same("undo it", x.undo(), 5);
    Check.same("a fourth one once more", x.bridge(25, 40), 2);
  }

  /** "they are kept by their distances, and have the numbers from 0 in this order". */
  private static void numbersByTheDistances() {
    for (int number = 0; number <= 3; number++) {
      FloatOrder x = bridged("c20", 30, 33, 10, 31, 20, 32);
      Check.same("bridge number " + number, x.bridge(5 + 10 * number, 90), number);
      int[] distances = new int[4];
      int[] clearances = new int[4];
      for (int i = 0; i < 4; i++) {
        distances[i] = i < number ? 10 + 10 * i : i == number ? 5 + 10 * i : 10 * i;
        clearances[i] = i < number ? 31 + i : i == number ? 90 : 30 + i;
      }
      bridges("by distances", x, 0, distances);
      bridges("with their clearances", x, 1, clearances);
    }
    FloatOrder backward = bridged("c20", 50, 14, 40, 13, 30, 12, 20, 11);
    bridges("built from the last one on", backward, 0, 20, 30, 40, 50);
    bridges("built from the last one on", backward, 1, 11, 12, 13, 14);
  }

  /** "bridge: its number", of 1 to 4 bridges; "Returns its distance". */
  private static void eachBridgeToTakeAway() {
    for (int number = 1; number <= 4; number++) {
      int own = number;
      int[] built = new int[2 * number];
      for (int i = 0; i < number; i++) {
        built[2 * i] = 10 + i;
        built[2 * i + 1] = 40 + i;
      }
      for (int bridge = 0; bridge < number; bridge++) {
        FloatOrder x = bridged("c20", built);
        Check.same("unbridge(" + bridge + ") of " + number, x.unbridge(bridge), 10 + bridge);
        int[] distances = new int[number - 1];
        int[] clearances = new int[number - 1];
        for (int i = 0; i < number - 1; i++) {
          distances[i] = i < bridge ? 10 + i : 11 + i;
          clearances[i] = distances[i] + 30;
        }
        bridges("what is left", x, 0, distances);
        bridges("what is left", x, 1, clearances);
      }
      Parades.refused("unbridge(-1)", () -> bridged("c20", built), Parades.PLACE, x -> x.unbridge(-1));
      Parades.refused("unbridge(as many)", () -> bridged("c20", built), Parades.PLACE, x -> x.unbridge(own));
    }
  }

  // ---- promises 10 and 21

  /** "how far bands have to be apart, 1 to 6, at first 3", and so on; "Returns the previous value". */
  private static void eachValueOfEachSetting() {
    for (int setting = 0; setting <= 3; setting++) {
      int own = setting;
      FloatOrder x = new FloatOrder();
      Check.same("setting " + setting + " at first", x.setting(setting), AT_FIRST[setting]);
      int previous = AT_FIRST[setting];
      for (int value = LEAST[setting]; value <= GREATEST[setting]; value++) {
        Check.same("set(" + setting + ", " + value + ")", x.set(setting, value), previous);
        Check.same("setting(" + setting + ")", x.setting(setting), value);
        previous = value;
      }
      Check.same("the same value again", x.set(setting, previous), previous);
      for (int other = 0; other <= 3; other++) {
        Check.same("setting " + other, x.setting(other), other == setting ? GREATEST[other] : AT_FIRST[other]);
      }
      Parades.refused("too small", Parades.EMPTY, Parades.ARGUMENT, y -> y.set(own, LEAST[own] - 1));
      Parades.refused("too large", Parades.EMPTY, Parades.ARGUMENT, y -> y.set(own, GREATEST[own] + 1));
    }
    Parades.refused("setting -1", Parades.EMPTY, Parades.PLACE, x -> x.setting(-1));
    Parades.refused("setting 4", Parades.EMPTY, Parades.PLACE, x -> x.setting(4));
    Parades.refused("set -1", Parades.EMPTY, Parades.PLACE, x -> x.set(-1, 3));
    Parades.refused("set 4", Parades.EMPTY, Parades.PLACE, x -> x.set(4, 3));
    Parades.refused("set 4, no value of any setting", Parades.EMPTY, Parades.PLACE, x -> x.set(4, 21));
  }

  // ---- the minutes

  /** "The float at the place p sets off in the minute p * setting 1", the first one in the minute 0. */
  private static void settingOffByTheGap() {
    for (int gap = 1; gap <= 9; gap++) {
      FloatOrder x = Parades.carts(12);
      x.bridge(1, 99);
      x.set(1, gap);
      for (int place = 0; place < 12; place++) {
        minutes("gap " + gap, x, place, place * gap + 2, place * gap + 120);
      }
    }
  }

  /** "It goes setting 2 minutes for each hundred metres". */
  private static void minutesForAHundredMetres() {
    for (int pace = 1; pace <= 9; pace++) {
      FloatOrder x = bridged("c20;c20", 1, 99, 50, 99);
      x.set(2, pace);
      minutes("pace " + pace, x, 0, pace, 50 * pace, 60 * pace);
      minutes("pace " + pace, x, 1, pace + 2, 50 * pace + 2, 60 * pace + 2);
    }
  }

  /** "The way has the length 60". */
  private static void theLengthOfTheWay() {
    FloatOrder x = Parades.with("c99");
    Check.same("without bridges", x.comes(0, FloatOrder.NONE), 120);
    x.set(2, 1);
    Check.same("one minute for a hundred metres", x.comes(0, FloatOrder.NONE), 60);
    x.bridge(50, 99);
    minutes("the last ten", x, 0, 50, 60);
    x.undo();
    x.bridge(50, 98);
    minutes("the last ten, lowered", x, 0, 50, 64);
  }

  /** "but if it is higher than the clearance". */
  private static void higherThanTheClearance() {
    for (int clearance = 10; clearance <= 98; clearance++) {
      FloatOrder x = bridged("c10", 20, clearance);
      x.put(0, 0, clearance, 0);
      minutes("as high as " + clearance, x, 0, 40, 120);
      Check.same("as high: not lowered", x.floatAt(0, 5), 0);
      Check.same("none is lowered", x.bridgeOf(0, 2), 0);
      x.remove(0);
      x.put(0, 0, clearance + 1, 0);
      minutes("higher than " + clearance, x, 0, 40, 124);
      Check.same("higher: lowered", x.floatAt(0, 5), 1);
      Check.same("one is lowered", x.bridgeOf(0, 2), 1);
    }
    FloatOrder highest = bridged("c99", 20, 99);
    minutes("the highest one under the highest bridge", highest, 0, 40, 120);
    FloatOrder lowest = bridged("c10", 20, 10);
    minutes("the lowest one under the lowest bridge", lowest, 0, 40, 120);
  }

  /** A folded float is lowered by the height by which it counts. */
  private static void foldedUnderTheBridge() {
    FloatOrder x = bridged("c60;c61", 20, 40);
    Check.same("both are lowered", x.bridgeOf(0, 2), 2);
    x.fold(0, true);
    x.fold(1, true);
    Check.same("60 folded, under 40", x.floatAt(0, 5), 0);
    Check.same("61 folded, under 40", x.floatAt(1, 5), 1);
    Check.same("one is lowered", x.bridgeOf(0, 2), 1);
    minutes("60 folded, under 40", x, 0, 40, 120);
    minutes("61 folded, under 40", x, 1, 42, 126);
    FloatOrder low = bridged("c29;c30;c31", 20, 10);
    for (int place = 0; place < 3; place++) {
      low.fold(place, true);
      Check.same("folded, under 10: " + place, low.floatAt(place, 5), place == 2 ? 1 : 0);
    }
  }

  /** "setting 3 minutes later": 0 to 20; with 0 a float is lowered all the same. */
  private static void minutesOfLowering() {
    for (int lowering = 0; lowering <= 20; lowering++) {
      FloatOrder x = bridged("c60", 10, 40, 20, 40, 30, 60, 40, 59);
      x.set(3, lowering);
      int l = lowering;
      minutes("lowering " + l, x, 0, 20, 40 + l, 60 + 2 * l, 80 + 2 * l, 120 + 3 * l);
      Check.same("lowered at three bridges", x.floatAt(0, 5), 3);
      Check.same("waiting", x.count(6), 3 * l);
    }
  }

  /** "it comes at the later one of": the minute by its own way, and that by the float ahead, plus setting 1. */
  private static void theLaterOfTwoMinutes() {
    // The second one is lowered, the first one is not: the own minute is later from there on.
    FloatOrder own = bridged("c40;c50", 10, 40, 30, 99);
    minutes("the own minute", own, 0, 20, 60, 120);
    minutes("the own minute", own, 1, 22, 66, 126);
    // The first one is lowered: the second one waits behind it.
    FloatOrder ahead = bridged("c50;c40", 10, 40, 30, 99);
    minutes("behind the one ahead", ahead, 0, 20, 64, 124);
    minutes("behind the one ahead", ahead, 1, 26, 66, 126);
    // Both minutes are the same.
    FloatOrder same = bridged("c50;c50", 10, 40, 30, 99);
    minutes("both the same", same, 0, 20, 64, 124);
    minutes("both the same", same, 1, 26, 70, 130);
    // By one minute: behind a lowering of 1 the way of 22 is overtaken by 21 + 2; without it it is not.
    FloatOrder one = bridged("c50;c40", 10, 40);
    one.set(3, 1);
    minutes("one minute later", one, 1, 23, 123);
    one.set(3, 0);
    minutes("no minute later", one, 1, 22, 122);
    // The float ahead, and not the first one, is waited for: at the third place both lowerings add up.
    FloatOrder three = bridged("c50;c50;c40", 10, 40);
    minutes("behind two", three, 2, 32, 132);
    // At the first bridge only the second float is lowered, at the second bridge each one.
    FloatOrder both = bridged("c40;c50;c40", 10, 40, 20, 30);
    minutes("lowered later", both, 0, 20, 40, 124);
    minutes("lowered at both", both, 1, 22, 46, 130);
    minutes("behind the one lowered at both", both, 2, 28, 52, 136);
    // Minutes behind the float ahead are counted by the gap.
    FloatOrder gap = bridged("c50;c40", 10, 40);
    gap.set(1, 9);
    minutes("a gap of 9", gap, 1, 33, 133);
    gap.set(1, 1);
    minutes("a gap of 1", gap, 1, 25, 125);
  }

  /** "At the end it does not stop." */
  private static void theEndIsNoBridge() {
    FloatOrder x = Parades.with("c99;c99;c99");
    x.set(3, 20);
    minutes("no bridge", x, 0, 120);
    minutes("no bridge", x, 1, 122);
    minutes("no bridge", x, 2, 124);
  }

  /** "bridge: the number of a bridge, or NONE: the end", at the first and the last place of twelve. */
  private static void eachBridgeAndTheEnd() {
    FloatOrder x = Parades.carts(12);
    Check.same("the end without bridges", x.comes(11, FloatOrder.NONE), 142);
    Parades.refused("no bridge 0", () -> Parades.carts(12), Parades.PLACE, y -> y.comes(11, 0));
    x.bridge(10, 99);
    x.bridge(20, 99);
    x.bridge(30, 99);
    x.bridge(40, 99);
    minutes("the first", x, 0, 20, 40, 60, 80, 120);
    minutes("the last", x, 11, 42, 62, 82, 102, 142);
    Parades.refused("bridge 4", Parades.FULL, Parades.PLACE, y -> y.comes(0, 4));
    Parades.refused("bridge -2", Parades.FULL, Parades.PLACE, y -> y.comes(0, -2));
    Parades.refused("float 12", Parades.FULL, Parades.PLACE, y -> y.comes(12, 0));
    Parades.refused("float -1", Parades.FULL, Parades.PLACE, y -> y.comes(-1, 0));
  }

  /** "what: 0: its distance; 1: its clearance; 2: floats that are lowered there", of the first and the last of four. */
  private static void eachPropertyOfABridge() {
    FloatOrder x = bridged("c99;c50;c40;c10", 1, 10, 50, 98, 20, 40, 30, 49);
    int[][] due = {{1, 10, 3}, {20, 40, 2}, {30, 49, 2}, {50, 98, 1}};
    for (int bridge = 0; bridge < 4; bridge++) {
      for (int what = 0; what <= 2; what++) {
        Check.same("bridgeOf(" + bridge + ", " + what + ")", x.bridgeOf(bridge, what), due[bridge][what]);
      }
    }
    FloatOrder none = new FloatOrder();
    none.bridge(1, 10);
    Check.same("no float is lowered", none.bridgeOf(0, 2), 0);
  }

  /**
   * Twelve of the highest, four of the lowest bridges, the greatest settings. The first one comes to the bridges at 1, 2,
   * 49 and 50 in 9, 38, 481 and 510, and in 620 to the end; each next one by 20 + 9 minutes later.
   */
  private static void theFullWay() {
    FloatOrder x = new FloatOrder();
    for (int place = 0; place < 12; place++) {
      x.put(place, 0, 99, 0);
    }
    x.bridge(50, 10);
    x.bridge(1, 10);
    x.bridge(49, 10);
    x.bridge(2, 10);
    x.set(1, 9);
    x.set(2, 9);
    x.set(3, 20);
    for (int place = 0; place < 12; place++) {
      int later = 29 * place;
      minutes("the full way", x, place, 9 + later, 38 + later, 481 + later, 510 + later, 620 + later);
    }
    Check.same("the end", x.count(3), 939);
    Check.same("waiting", x.count(6), 939 - 540 - 99);
    Check.same("all are lowered", x.count(4), 12);
    x.set(1, 1);
    x.set(2, 1);
    x.set(3, 0);
    minutes("the least settings", x, 11, 12, 13, 60, 61, 71);
    Check.same("the least end", x.count(3), 71);
    Check.same("no waiting", x.count(6), 0);
  }

  // ---- promise 20

  /** "what: 0 to 8". */
  private static void eachNumber() {
    FloatOrder x = bridged("g50;g60;b41;b40;h20!b", 10, 40, 30, 45);
    int[] due = {5, 2, 7, 140, 3, 3, 12, 60, 3};
    for (int what = 0; what <= 8; what++) {
      Check.same("count(" + what + ")", x.count(what), due[what]);
    }
    FloatOrder one = Parades.with("c99");
    int[] dueOfOne = {1, 0, 0, 120, 0, 0, 0, 99, 1};
    for (int what = 0; what <= 8; what++) {
      Check.same("count(" + what + ") of one", one.count(what), dueOfOne[what]);
    }
    Parades.refused("count(-1)", Parades.SMALL, Parades.ARGUMENT, y -> y.count(-1));
    Parades.refused("count(9)", Parades.SMALL, Parades.ARGUMENT, y -> y.count(9));
  }

  /** "4: floats that are lowered at some bridge". */
  private static void loweredFloatsCountOnce() {
    FloatOrder x = bridged("c90;c50;c20", 10, 30, 20, 40, 30, 49, 40, 50);
    Check.same("at four bridges", x.floatAt(0, 5), 4);
    Check.same("at three bridges", x.floatAt(1, 5), 3);
    Check.same("at none", x.floatAt(2, 5), 0);
    Check.same("two floats", x.count(4), 2);
  }

  /** "0 without floats", whatever the way is. */
  private static void withoutFloats() {
    FloatOrder x = new FloatOrder();
    x.bridge(10, 10);
    x.bridge(20, 10);
    x.set(1, 9);
    x.set(3, 20);
    int[] due = {0, 2, 0, 0, 0, 0, 0, 0, 4};
    for (int what = 0; what <= 8; what++) {
      Check.same("count(" + what + ") without floats", x.count(what), due[what]);
    }
    x.put(0, 0, 99, 0);
    Check.same("the end of one", x.count(3), 160);
    Check.same("the greatest height of one", x.count(7), 99);
    x.remove(0);
    Check.same("the end without floats again", x.count(3), 0);
    Check.same("waiting without floats again", x.count(6), 0);
    Check.same("the greatest height without floats again", x.count(7), 0);
  }
}
