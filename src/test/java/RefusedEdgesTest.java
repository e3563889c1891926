/**
 * Exceptions: "A call that throws an exception changes nothing. If several exceptions apply, the one that is named first
 * in the throws clause is thrown." Each 'Throws' line by itself, each pair of exceptions that can apply at once, on an
 * empty, a small and a full parade.
 */
public final class RefusedEdgesTest {
  private static final Parades.Made[] EACH = {Parades.EMPTY, Parades.SMALL, Parades.FULL, Parades.FULL_WRONG};

  public static void main(String[] args) {
    for (Parades.Made made : EACH) {
      int floats = made.make().count(0);
      int bridges = made.make().count(1);
      noSuchPlaceToPut(made, floats);
      noSuchFloat(made, floats);
      noSuchOtherPlace(made, floats);
      noSuchFloatToLookAt(made, floats, bridges);
      noSuchBridge(made, floats, bridges);
      noSuchSetting(made);
      codeOutOfRange(made);
      countOutOfRange(made);
    }
    kindHeightOrShiesOutOfRange();
    whatOutOfRange();
    distanceOrClearanceOutOfRange();
    valueOutOfRange();
    tooManyFloats();
    tooManyBridges();
    oneAtThisDistance();
    tooManyCharacters();
    notCompleteFloats();
    tooManyFloatsInTheBuffer();
    noSavedState();
    Check.end("RefusedEdgesTest");
  }

  // ---- IndexOutOfBoundsException, alone and with those that are named behind it

  private static void noSuchPlaceToPut(Parades.Made made, int floats) {
    // With 12 floats IllegalStateException applies too.
    for (int bad : Parades.outside(0, floats)) {
      Parades.refused("put(" + bad + ") into " + floats, made, Parades.PLACE, x -> x.put(bad, 0, 20, 0));
      Parades.refused("put(" + bad + "), kind 4", made, Parades.PLACE, x -> x.put(bad, 4, 20, 0));
      Parades.refused("put(" + bad + "), height 9", made, Parades.PLACE, x -> x.put(bad, 0, 9, 0));
      Parades.refused("put(" + bad + "), shying cart", made, Parades.PLACE, x -> x.put(bad, 0, 20, 1));
    }
  }

  private static void noSuchFloat(Parades.Made made, int floats) {
    for (int bad : Parades.outside(0, floats - 1)) {
      String what = "(" + bad + ") of " + floats;
      Parades.refused("remove" + what, made, Parades.PLACE, x -> x.remove(bad));
      Parades.refused("move to 0" + what, made, Parades.PLACE, x -> x.move(bad, 0));
      Parades.refused("exchange with 0" + what, made, Parades.PLACE, x -> x.exchange(bad, 0));
      Parades.refused("fold" + what, made, Parades.PLACE, x -> x.fold(bad, true));
      Parades.refused("unfold" + what, made, Parades.PLACE, x -> x.fold(bad, false));
      Parades.refused("bestPlace" + what, made, Parades.PLACE, x -> x.bestPlace(bad));
    }
  }

  private static void noSuchOtherPlace(Parades.Made made, int floats) {
    for (int bad : Parades.outside(0, floats - 1)) {
      String what = "(0, " + bad + ") of " + floats;
      Parades.refused("move" + what, made, Parades.PLACE, x -> x.move(0, bad));
      Parades.refused("exchange" + what, made, Parades.PLACE, x -> x.exchange(0, bad));
      Parades.refused("ifMoved" + what, made, Parades.PLACE, x -> x.ifMoved(0, bad, 0));
      Parades.refused("move, both wrong, " + bad, made, Parades.PLACE, x -> x.move(bad, bad));
      Parades.refused("exchange, both wrong, " + bad, made, Parades.PLACE, x -> x.exchange(bad, bad));
      Parades.refused("ifMoved, both wrong, " + bad, made, Parades.PLACE, x -> x.ifMoved(bad, bad, 1));
      for (int wrong : Parades.outside(0, 1)) {
        Parades.refused("ifMoved" + what + ", " + wrong, made, Parades.PLACE, x -> x.ifMoved(0, bad, wrong));
        Parades.refused("ifMoved from " + bad + ", " + wrong, made, Parades.PLACE, x -> x.ifMoved(bad, 0, wrong));
      }
    }
  }

  private static void noSuchFloatToLookAt(Parades.Made made, int floats, int bridges) {
    for (int bad : Parades.outside(0, floats - 1)) {
      String what = "(" + bad + ") of " + floats;
      Parades.refused("floatAt" + what, made, Parades.PLACE, x -> x.floatAt(bad, 0));
      Parades.refused("trouble" + what, made, Parades.PLACE, x -> x.trouble(bad, 0));
      Parades.refused("comes to the end" + what, made, Parades.PLACE, x -> x.comes(bad, FloatOrder.NONE));
      Parades.refused("comes to a bridge" + what, made, Parades.PLACE, x -> x.comes(bad, 0));
      Parades.refused("comes to no bridge" + what, made, Parades.PLACE, x -> x.comes(bad, bridges));
      Parades.refused("floatAt" + what + ", -1", made, Parades.PLACE, x -> x.floatAt(bad, -1));
      Parades.refused("floatAt" + what + ", 7", made, Parades.PLACE, x -> x.floatAt(bad, 7));
      Parades.refused("trouble" + what + ", -1", made, Parades.PLACE, x -> x.trouble(bad, -1));
      Parades.refused("trouble" + what + ", 3", made, Parades.PLACE, x -> x.trouble(bad, 3));
      Parades.refused("ifMoved" + what, made, Parades.PLACE, x -> x.ifMoved(bad, 0, 0));
    }
  }

  private static void noSuchBridge(Parades.Made made, int floats, int bridges) {
    for (int bad : Parades.outside(0, bridges - 1)) {
      String what = "(" + bad + ") of " + bridges;
      Parades.refused("unbridge" + what, made, Parades.PLACE, x -> x.unbridge(bad));
      Parades.refused("bridgeOf" + what, made, Parades.PLACE, x -> x.bridgeOf(bad, 0));
      Parades.refused("bridgeOf" + what + ", -1", made, Parades.PLACE, x -> x.bridgeOf(bad, -1));
      Parades.refused("bridgeOf" + what + ", 3", made, Parades.PLACE, x -> x.bridgeOf(bad, 3));
      if (bad != FloatOrder.NONE || floats == 0) {
        Parades.refused("comes to the bridge" + what, made, Parades.PLACE, x -> x.comes(0, bad));
      }
    }
  }

  private static void noSuchSetting(Parades.Made made) {
    for (int bad : Parades.outside(0, 3)) {
      Parades.refused("setting(" + bad + ")", made, Parades.PLACE, x -> x.setting(bad));
      // 1 and 6 are within the range of every setting; -1 and 21 within that of none.
      for (int value : new int[] {1, 6, -1, 21, Integer.MIN_VALUE, Integer.MAX_VALUE}) {
        Parades.refused("set(" + bad + ", " + value + ")", made, Parades.PLACE, x -> x.set(bad, value));
      }
    }
  }

  // ---- IllegalArgumentException, alone and with IllegalStateException

  private static void kindHeightOrShiesOutOfRange() {
    // With 12 floats IllegalStateException applies too.
    for (Parades.Made made : EACH) {
      for (int kind : Parades.outside(0, 3)) {
        Parades.refused("put kind " + kind, made, Parades.ARGUMENT, x -> x.put(0, kind, 20, 0));
      }
      for (int height : Parades.outside(10, 99)) {
        Parades.refused("put height " + height, made, Parades.ARGUMENT, x -> x.put(0, 0, height, 0));
        Parades.refused("put horses of height " + height, made, Parades.ARGUMENT, x -> x.put(0, 1, height, 15));
      }
      for (int shies : Parades.outside(0, 15)) {
        Parades.refused("put horses of mask " + shies, made, Parades.ARGUMENT, x -> x.put(0, 1, 20, shies));
      }
      for (int kind : new int[] {0, 2, 3}) {
        for (int shies : Parades.outside(0, 0)) {
          Parades.refused("put kind " + kind + " of mask " + shies, made, Parades.ARGUMENT,
              x -> x.put(0, kind, 20, shies));
        }
        Parades.refused("put kind " + kind + " of mask 15", made, Parades.ARGUMENT, x -> x.put(0, kind, 20, 15));
      }
      Parades.refused("put, all wrong", made, Parades.ARGUMENT, x -> x.put(0, -1, 100, 16));
    }
    Parades.refused("put last into 12, kind 4", Parades.FULL, Parades.ARGUMENT, x -> x.put(12, 4, 20, 0));
    Parades.refused("put at 13 into 12, kind 4", Parades.FULL, Parades.PLACE, x -> x.put(13, 4, 20, 0));
  }

  private static void whatOutOfRange() {
    for (Parades.Made made : new Parades.Made[] {Parades.SMALL, Parades.FULL}) {
      int last = made.make().count(0) - 1;
      for (int place : new int[] {0, last}) {
        for (int bad : Parades.outside(0, 6)) {
          Parades.refused("floatAt(, " + bad + ")", made, Parades.ARGUMENT, x -> x.floatAt(place, bad));
        }
        for (int bad : Parades.outside(0, 2)) {
          Parades.refused("trouble(, " + bad + ")", made, Parades.ARGUMENT, x -> x.trouble(place, bad));
        }
        for (int bad : Parades.outside(0, 1)) {
          Parades.refused("ifMoved(, , " + bad + ")", made, Parades.ARGUMENT, x -> x.ifMoved(place, last, bad));
        }
      }
      int lastBridge = made.make().count(1) - 1;
      for (int bad : Parades.outside(0, 2)) {
        Parades.refused("bridgeOf(0, " + bad + ")", made, Parades.ARGUMENT, x -> x.bridgeOf(0, bad));
        Parades.refused("bridgeOf(last, " + bad + ")", made, Parades.ARGUMENT, x -> x.bridgeOf(lastBridge, bad));
      }
    }
  }

  private static void countOutOfRange(Parades.Made made) {
    for (int bad : Parades.outside(0, 8)) {
      Parades.refused("count(" + bad + ")", made, Parades.ARGUMENT, x -> x.count(bad));
    }
  }

  private static void codeOutOfRange(Parades.Made made) {
    // With 60 characters IllegalStateException applies too.
    for (int bad : Parades.outside(33, 126)) {
      Parades.refused("append(" + bad + ")", made, Parades.ARGUMENT, x -> x.append(bad));
    }
  }

  private static void distanceOrClearanceOutOfRange() {
    // With 4 bridges IllegalStateException applies too.
    for (Parades.Made made : EACH) {
      for (int bad : Parades.outside(1, 50)) {
        Parades.refused("bridge at " + bad, made, Parades.ARGUMENT, x -> x.bridge(bad, 40));
        Parades.refused("bridge at " + bad + ", clearance 9", made, Parades.ARGUMENT, x -> x.bridge(bad, 9));
      }
      for (int bad : Parades.outside(10, 99)) {
        Parades.refused("bridge of clearance " + bad, made, Parades.ARGUMENT, x -> x.bridge(15, bad));
        // There is one at 30 already, but in the empty parade.
        Parades.refused("bridge of clearance " + bad + " at 30", made, Parades.ARGUMENT, x -> x.bridge(30, bad));
      }
    }
  }

  private static void valueOutOfRange() {
    int[] least = {1, 1, 1, 0};
    int[] greatest = {6, 9, 9, 20};
    for (Parades.Made made : EACH) {
      for (int setting = 0; setting <= 3; setting++) {
        int own = setting;
        for (int bad : Parades.outside(least[own], greatest[own])) {
          Parades.refused("set(" + own + ", " + bad + ")", made, Parades.ARGUMENT, x -> x.set(own, bad));
        }
      }
    }
  }

  private static void notCompleteFloats() {
    for (String wrong : new String[] {"", "c", "c1", "c10;", "h10!", "h10!c;", "c10;h", "x", "c10x", "c10!c", "h10!cc"}) {
      Parades.Made few = () -> {
        FloatOrder x = new FloatOrder();
        Parades.write(x, wrong);
        return x;
      };
      Parades.Made twelve = () -> {
        FloatOrder x = Parades.carts(12);
        Parades.write(x, wrong);
        return x;
      };
      Parades.refused("putAll of '" + wrong + "'", few, Parades.ARGUMENT, FloatOrder::putAll);
      // None can be put behind 12, but the text is looked at first.
      Parades.refused("putAll of '" + wrong + "' into 12", twelve, Parades.ARGUMENT, FloatOrder::putAll);
    }
    Parades.refused("putAll of '' into 3", () -> Parades.carts(3), Parades.ARGUMENT, FloatOrder::putAll);
    Parades.refused("putAll of 'h10!'", Parades.SMALL, Parades.ARGUMENT, FloatOrder::putAll);
    Parades.refused("putAll of 60 wrong ones into 12", Parades.FULL_WRONG, Parades.ARGUMENT, FloatOrder::putAll);
    Parades.refused("putAll of 14 and ';'", () -> written(0, "c10;".repeat(14)), Parades.ARGUMENT, FloatOrder::putAll);
    Parades.refused("putAll of 15 and ';'", () -> written(0, "c10;".repeat(15)), Parades.ARGUMENT, FloatOrder::putAll);
  }

  private static FloatOrder written(int floats, String text) {
    FloatOrder x = Parades.carts(floats);
    Parades.write(x, text);
    return x;
  }

  private static String parts(int number) {
    return "c10;".repeat(number - 1) + "b11";
  }

  // ---- IllegalStateException alone

  private static void tooManyFloats() {
    for (int place = 0; place <= 12; place++) {
      int own = place;
      Parades.refused("put(" + own + ") into 12", Parades.FULL, Parades.STATE, x -> x.put(own, 0, 20, 0));
      Parades.refused("put(" + own + ") into 12 carts", () -> Parades.carts(12), Parades.STATE,
          x -> x.put(own, 1, 99, 15));
    }
  }

  private static void tooManyBridges() {
    for (int distance = 1; distance <= 50; distance++) {
      int own = distance;
      // At 1, 20, 30 and 50 both reasons of the exception hold.
      Parades.refused("a fifth bridge at " + own, Parades.FULL, Parades.STATE, x -> x.bridge(own, 40));
    }
  }

  private static void oneAtThisDistance() {
    for (int distance : new int[] {10, 30}) {
      for (int clearance : new int[] {10, 40, 45, 99}) {
        Parades.refused("a bridge at " + distance + " again", Parades.SMALL, Parades.STATE,
            x -> x.bridge(distance, clearance));
      }
    }
    for (int distance : new int[] {1, 50}) {
      Parades.Made made = () -> {
        FloatOrder x = new FloatOrder();
        x.bridge(distance, 40);
        return x;
      };
      Parades.refused("a second bridge at " + distance, made, Parades.STATE, x -> x.bridge(distance, 50));
    }
  }

  private static void tooManyCharacters() {
    for (int code : new int[] {33, 59, 99, 126}) {
      Parades.refused("append(" + code + ") to 60", Parades.FULL, Parades.STATE, x -> x.append(code));
      Parades.refused("append(" + code + ") to 60 wrong ones", Parades.FULL_WRONG, Parades.STATE, x -> x.append(code));
    }
  }

  private static void tooManyFloatsInTheBuffer() {
    for (int floats = 0; floats <= 12; floats++) {
      int own = floats;
      for (int more = 13 - own; more <= 15 && more >= 1; more++) {
        int parts = more;
        if (parts <= 13 - own + 1 || parts == 15) {
          Parades.refused("putAll of " + parts + " behind " + own, () -> written(own, parts(parts)), Parades.STATE,
              FloatOrder::putAll);
        }
      }
    }
    Parades.refused("putAll of 7 behind 12", Parades.FULL, Parades.STATE, FloatOrder::putAll);
  }

  private static void noSavedState() {
    Parades.refused("undo of nothing", Parades.EMPTY, Parades.STATE, FloatOrder::undo);
    Parades.Made undone = () -> {
      FloatOrder x = Parades.with("c10;h20!c");
      x.undo();
      Parades.write(x, "b30");
      return x;
    };
    Parades.refused("undo of what is undone", undone, Parades.STATE, FloatOrder::undo);
    Parades.Made six = () -> {
      FloatOrder x = Parades.carts(8);
      for (int i = 0; i < 6; i++) {
        x.undo();
      }
      return x;
    };
    Parades.refused("undo of a seventh state", six, Parades.STATE, FloatOrder::undo);
  }
}
