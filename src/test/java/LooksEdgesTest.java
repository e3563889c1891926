/**
 * "looks; nothing is changed", "what would be; nothing is changed": each of these calls with each argument that is
 * allowed, on an empty, a small and two full parades. No answer is another one then, and none of what is undone later.
 */
public final class LooksEdgesTest {
  private static final Parades.Made[] EACH = {Parades.EMPTY, Parades.SMALL, Parades.FULL, Parades.FULL_WRONG};

  public static void main(String[] args) {
    for (Parades.Made made : EACH) {
      int floats = made.make().count(0);
      int bridges = made.make().count(1);
      looksAtTheFloats(made, floats, bridges);
      looksAtTheBridges(made, bridges);
      looksAtTheParade(made);
      whatMovingWouldBring(made, floats);
      whatElseWouldBe(made, floats);
    }
    Check.end("LooksEdgesTest");
  }

  // ---- looks

  private static void looksAtTheFloats(Parades.Made made, int floats, int bridges) {
    for (int place = 0; place < floats; place++) {
      int own = place;
      for (int what = 0; what <= 6; what++) {
        int property = what;
        Parades.looksAlone("floatAt(" + own + ", " + what + ")", made, x -> x.floatAt(own, property));
      }
      for (int reason = 0; reason <= 2; reason++) {
        int by = reason;
        Parades.looksAlone("trouble(" + own + ", " + reason + ")", made, x -> x.trouble(own, by));
      }
      for (int bridge = FloatOrder.NONE; bridge < bridges; bridge++) {
        int to = bridge;
        Parades.looksAlone("comes(" + own + ", " + bridge + ")", made, x -> x.comes(own, to));
      }
    }
  }

  private static void looksAtTheBridges(Parades.Made made, int bridges) {
    for (int bridge = 0; bridge < bridges; bridge++) {
      int own = bridge;
      for (int what = 0; what <= 2; what++) {
        int property = what;
        Parades.looksAlone("bridgeOf(" + own + ", " + what + ")", made, x -> x.bridgeOf(own, property));
      }
    }
  }

  /** And at the buffer: firstError is no look by the document's groups, but it only finds. */
  private static void looksAtTheParade(Parades.Made made) {
    for (int what = 0; what <= 8; what++) {
      int own = what;
      Parades.looksAlone("count(" + what + ")", made, x -> x.count(own));
    }
    for (int setting = 0; setting <= 3; setting++) {
      int own = setting;
      Parades.looksAlone("setting(" + setting + ")", made, x -> x.setting(own));
    }
    Parades.looksAlone("firstError", made, FloatOrder::firstError);
  }

  // ---- what would be

  private static void whatMovingWouldBring(Parades.Made made, int floats) {
    for (int place = 0; place < floats; place++) {
      for (int to = 0; to < floats; to++) {
        int from = place;
        int then = to;
        Parades.looksAlone("ifMoved(" + from + ", " + to + ", 0)", made, x -> x.ifMoved(from, then, 0));
        Parades.looksAlone("ifMoved(" + from + ", " + to + ", 1)", made, x -> x.ifMoved(from, then, 1));
      }
    }
  }

  private static void whatElseWouldBe(Parades.Made made, int floats) {
    for (int place = 0; place < floats; place++) {
      int own = place;
      Parades.looksAlone("bestPlace(" + place + ")", made, x -> x.bestPlace(own));
    }
    Parades.looksAlone("bestFold", made, FloatOrder::bestFold);
    Parades.looksAlone("leastTrouble", made, FloatOrder::leastTrouble);
    Parades.looksAlone("smoothness", made, x -> Double.doubleToRawLongBits(x.smoothness()));
    Parades.looksAlone("digest", made, FloatOrder::digest);
  }
}
