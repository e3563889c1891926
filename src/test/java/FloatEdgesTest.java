import java.util.ArrayList;
import java.util.List;

/** The boundaries of promises 1 to 7, and of 'Floats': what is still allowed, and what it then does. */
public final class FloatEdgesTest {
  private static final int[] SIZES = {1, 2, 3, 11, 12};

  public static void main(String[] args) {
    aNewObjectAnswers();
    aNewObjectHasNothingToChange();
    objectsAreApart();
    eachPlaceToPut();
    twelveFloatsAndNoMore();
    eachKind();
    eachHeight();
    eachMask();
    atFirstNotFolded();
    twentyLessButNotLessThanTen();
    foldingTwice();
    eachFloatToRemove();
    eachMove();
    eachExchange();
    whatMoveAndExchangeReturn();
    nothingToArrange();
    anEndOneMinuteLess();
    troubleComesBeforeTheEnd();
    ofSeveralTheLeastEnd();
    theLowestFirstPlaceThenTheLowestOther();
    theFirstAndTheLastOfTwelve();
    arrangeIsUndoneAsOneCall();
    Check.end("FloatEdgesTest");
  }

  private static List<Integer> heightsOfCarts(int floats) {
    List<Integer> heights = new ArrayList<>();
    for (int place = 0; place < floats; place++) {
      heights.add(20 + place);
    }
    return heights;
  }

  // ---- promise 1

  /** "Creates a parade without floats and bridges, with an empty buffer", and each setting's first value. */
  private static void aNewObjectAnswers() {
    FloatOrder x = new FloatOrder();
    for (int what = 0; what <= 8; what++) {
      Check.same("new: count(" + what + ")", x.count(what), 0);
    }
    Check.same("new: how far bands have to be apart", x.setting(0), 3);
    Check.same("new: the gap", x.setting(1), 2);
    Check.same("new: minutes for a hundred metres", x.setting(2), 2);
    Check.same("new: minutes of lowering", x.setting(3), 4);
    Check.same("new: bestFold", x.bestFold(), FloatOrder.NONE);
    Check.same("new: leastTrouble", x.leastTrouble(), 0);
    Check.sameShare("new: smoothness", x.smoothness(), 1.0);
    Check.same("new: firstError", x.firstError(), 0);
    Check.same("new: clearBuffer", x.clearBuffer(), 0);
    Check.same("new: arrange", x.arrange(), 0);
    Check.same("new: put", new FloatOrder().put(0, 0, 10, 0), 1);
    Check.same("new: bridge", new FloatOrder().bridge(1, 10), 0);
    Check.same("new: append", new FloatOrder().append(33), 1);
    Check.same("NONE", FloatOrder.NONE, -1);
  }

  private static void aNewObjectHasNothingToChange() {
    Parades.Made made = FloatOrder::new;
    Parades.refused("new: put(1)", made, Parades.PLACE, x -> x.put(1, 0, 20, 0));
    Parades.refused("new: remove", made, Parades.PLACE, x -> x.remove(0));
    Parades.refused("new: move", made, Parades.PLACE, x -> x.move(0, 0));
    Parades.refused("new: exchange", made, Parades.PLACE, x -> x.exchange(0, 0));
    Parades.refused("new: fold", made, Parades.PLACE, x -> x.fold(0, false));
    Parades.refused("new: unbridge", made, Parades.PLACE, x -> x.unbridge(0));
    Parades.refused("new: putAll", made, Parades.ARGUMENT, FloatOrder::putAll);
    Parades.refused("new: undo", made, Parades.STATE, FloatOrder::undo);
    Parades.refused("new: floatAt", made, Parades.PLACE, x -> x.floatAt(0, 0));
    Parades.refused("new: trouble", made, Parades.PLACE, x -> x.trouble(0, 0));
    Parades.refused("new: comes to the end", made, Parades.PLACE, x -> x.comes(0, FloatOrder.NONE));
    Parades.refused("new: bridgeOf", made, Parades.PLACE, x -> x.bridgeOf(0, 0));
    Parades.refused("new: ifMoved", made, Parades.PLACE, x -> x.ifMoved(0, 0, 0));
    Parades.refused("new: bestPlace", made, Parades.PLACE, x -> x.bestPlace(0));
  }

  private static void objectsAreApart() {
    FloatOrder x = new FloatOrder();
    long before = x.digest();
    FloatOrder y = Parades.FULL.make();
    y.set(0, 1);
    y.arrange();
    Check.same("another object, digest", x.digest(), before);
    Check.same("another object, setting", new FloatOrder().setting(0), 3);
  }

  // ---- promise 2, and 'Floats'

  /** "place: 0 to as many as there are"; "those at this place and behind it go back by one". */
  private static void eachPlaceToPut() {
    for (int floats = 0; floats <= 11; floats++) {
      int own = floats;
      for (int place = 0; place <= floats; place++) {
        FloatOrder x = Parades.carts(floats);
        String what = "put(" + place + ") into " + floats;
        Check.same(what, x.put(place, 3, 99, 0), floats + 1);
        List<Integer> due = heightsOfCarts(floats);
        due.add(place, 99);
        Parades.heights(what, x, Parades.numbers(due));
        Check.same(what + ": its kind", x.floatAt(place, 0), 3);
      }
      Parades.refused("put(-1)", () -> Parades.carts(own), Parades.PLACE, x -> x.put(-1, 0, 20, 0));
      Parades.refused("put behind " + own, () -> Parades.carts(own), Parades.PLACE, x -> x.put(own + 1, 0, 20, 0));
    }
  }

  /** "There are at most 12 floats". */
  private static void twelveFloatsAndNoMore() {
    FloatOrder x = Parades.carts(11);
    Check.same("the twelfth float", x.put(11, 0, 31, 0), 12);
    Check.same("twelve floats", x.count(0), 12);
    Check.same("the last of twelve", x.floatAt(11, 1), 31);
    Parades.refused("a thirteenth", () -> Parades.carts(12), Parades.STATE, y -> y.put(12, 0, 20, 0));
    Parades.refused("a thirteenth ahead", () -> Parades.carts(12), Parades.STATE, y -> y.put(0, 0, 20, 0));
    Check.same("remove one of twelve", x.remove(0), 11);
    Check.same("a twelfth again", x.put(0, 0, 20, 0), 12);
    Check.same("undo it", x.undo(), 5);
    Check.same("a twelfth once more", x.put(5, 0, 20, 0), 12);
  }

  /** "kind: 0 to 3". */
  private static void eachKind() {
    for (int kind = 0; kind <= 3; kind++) {
      FloatOrder x = new FloatOrder();
      Check.same("put kind " + kind, x.put(0, kind, 50, 0), 1);
      Check.same("kind " + kind, x.floatAt(0, 0), kind);
    }
    Parades.refused("kind -1", Parades.EMPTY, Parades.ARGUMENT, x -> x.put(0, -1, 50, 0));
    Parades.refused("kind 4", Parades.EMPTY, Parades.ARGUMENT, x -> x.put(0, 4, 50, 0));
  }

  /** "height: 10 to 99". */
  private static void eachHeight() {
    for (int kind = 0; kind <= 3; kind++) {
      int own = kind;
      for (int height = 10; height <= 99; height++) {
        FloatOrder x = new FloatOrder();
        Check.same("put height " + height, x.put(0, kind, height, 0), 1);
        Check.same("height " + height, x.floatAt(0, 1), height);
        Check.same("counted height " + height, x.floatAt(0, 4), height);
        Check.same("greatest height " + height, x.count(7), height);
      }
      Parades.refused("height 9", Parades.EMPTY, Parades.ARGUMENT, x -> x.put(0, own, 9, 0));
      Parades.refused("height 100", Parades.EMPTY, Parades.ARGUMENT, x -> x.put(0, own, 100, 0));
    }
  }

  /** "shies: 0 to 15, 0 for other kinds than 1"; "only horses shy (other floats have the mask 0)". */
  private static void eachMask() {
    for (int mask = 0; mask <= 15; mask++) {
      int own = mask;
      FloatOrder x = new FloatOrder();
      Check.same("put mask " + mask, x.put(0, 1, 50, mask), 1);
      Check.same("mask " + mask, x.floatAt(0, 2), mask);
      for (int kind : new int[] {0, 2, 3}) {
        if (mask == 0) {
          Check.same("put kind " + kind, x.put(0, kind, 50, 0), x.count(0));
          Check.same("mask of kind " + kind, x.floatAt(0, 2), 0);
        } else {
          Parades.refused("mask " + mask + " of kind " + kind, Parades.EMPTY, Parades.ARGUMENT,
              y -> y.put(0, kind, 50, own));
        }
      }
    }
    Parades.refused("mask -1", Parades.EMPTY, Parades.ARGUMENT, x -> x.put(0, 1, 50, -1));
    Parades.refused("mask 16", Parades.EMPTY, Parades.ARGUMENT, x -> x.put(0, 1, 50, 16));
  }

  /** "It is folded or not, at first not", where a folded one stood before, too. */
  private static void atFirstNotFolded() {
    for (int place = 0; place < 12; place++) {
      FloatOrder x = Parades.carts(12);
      for (int other = 0; other < 12; other++) {
        x.fold(other, true);
      }
      x.remove(place);
      x.put(place, 2, 50, 0);
      Check.same("put: not folded at " + place, x.floatAt(place, 3), 0);
      x.remove(place);
      Parades.write(x, "g77");
      x.putAll();
      Check.same("putAll: not folded", x.floatAt(11, 3), 0);
      Check.same("putAll: counted", x.floatAt(11, 4), 77);
      Check.same("the others stay folded", x.floatAt(place == 0 ? 1 : 0, 3), 1);
    }
  }

  // ---- promises 3 to 6

  /** "a folded one counts as 20 less high, but not less than 10". */
  private static void twentyLessButNotLessThanTen() {
    for (int height = 10; height <= 99; height++) {
      FloatOrder x = new FloatOrder();
      x.put(0, 0, height, 0);
      int due = height <= 30 ? 10 : height - 20;
      Check.same("fold " + height, x.fold(0, true), due);
      Check.same("folded " + height + " counts", x.floatAt(0, 4), due);
      Check.same("folded " + height + ", greatest", x.count(7), due);
      Check.same("folded " + height + " keeps its height", x.floatAt(0, 1), height);
      Check.same("unfold " + height, x.fold(0, false), height);
      Check.same("unfolded " + height + " counts", x.floatAt(0, 4), height);
    }
    FloatOrder x = Parades.with("c29;c30;c31;c99");
    Check.same("29 folded", x.fold(0, true), 10);
    Check.same("30 folded", x.fold(1, true), 10);
    Check.same("31 folded", x.fold(2, true), 11);
    Check.same("99 folded", x.fold(3, true), 79);
  }

  private static void foldingTwice() {
    FloatOrder x = Parades.with("c90;c50");
    Check.same("unfold what is not folded", x.fold(0, false), 90);
    Check.same("fold", x.fold(0, true), 70);
    Check.same("fold what is folded", x.fold(0, true), 70);
    Check.same("is folded", x.floatAt(0, 3), 1);
    Check.same("the other one is not", x.floatAt(1, 3), 0);
    Check.same("each call is saved", x.count(8), 4);
  }

  /** "place: its place", of 1 to 12 floats. */
  private static void eachFloatToRemove() {
    for (int floats = 1; floats <= 12; floats++) {
      int own = floats;
      for (int place = 0; place < floats; place++) {
        FloatOrder x = Parades.carts(floats);
        String what = "remove(" + place + ") of " + floats;
        Check.same(what, x.remove(place), floats - 1);
        List<Integer> due = heightsOfCarts(floats);
        due.remove(place);
        Parades.heights(what, x, Parades.numbers(due));
      }
      Parades.refused("remove(-1)", () -> Parades.carts(own), Parades.PLACE, x -> x.remove(-1));
      Parades.refused("remove behind the last", () -> Parades.carts(own), Parades.PLACE, x -> x.remove(own));
    }
  }

  /** "it is taken away, and put at a place": to each place of a float, its own one too. */
  private static void eachMove() {
    for (int floats : SIZES) {
      for (int place = 0; place < floats; place++) {
        for (int to = 0; to < floats; to++) {
          FloatOrder x = Parades.carts(floats);
          x.fold(place, true);
          String what = "move(" + place + ", " + to + ") of " + floats;
          Check.same(what, x.move(place, to), 0);
          List<Integer> due = heightsOfCarts(floats);
          due.add(to, due.remove(place));
          Parades.heights(what, x, Parades.numbers(due));
          Check.same(what + ": folded as before", x.floatAt(to, 3), 1);
        }
      }
      Parades.refused("move behind the last", () -> Parades.carts(floats), Parades.PLACE, x -> x.move(0, floats));
      Parades.refused("move from behind", () -> Parades.carts(floats), Parades.PLACE, x -> x.move(floats, 0));
    }
  }

  private static void eachExchange() {
    for (int floats : SIZES) {
      for (int place = 0; place < floats; place++) {
        for (int other = 0; other < floats; other++) {
          FloatOrder x = Parades.carts(floats);
          x.fold(place, true);
          String what = "exchange(" + place + ", " + other + ") of " + floats;
          Check.same(what, x.exchange(place, other), 0);
          List<Integer> due = heightsOfCarts(floats);
          int height = due.get(place);
          due.set(place, due.get(other));
          due.set(other, height);
          Parades.heights(what, x, Parades.numbers(due));
          Check.same(what + ": folded as before", x.floatAt(other, 3), 1);
          Check.same(what + ": the other as before", x.floatAt(place, 3), place == other ? 1 : 0);
        }
      }
      Parades.refused("exchange behind", () -> Parades.carts(floats), Parades.PLACE, x -> x.exchange(0, floats));
      Parades.refused("exchange from behind", () -> Parades.carts(floats), Parades.PLACE, x -> x.exchange(floats, 0));
    }
  }

  /** "Returns the trouble of the parade then", not that from before, nor that of the float alone. */
  private static void whatMoveAndExchangeReturn() {
    FloatOrder x = Parades.with("g10;g20;c30;b40;b50");
    Check.same("the trouble at first", x.count(2), 3);
    Check.same("move the cart between the giants", x.move(2, 1), 1);
    Check.same("move it back", x.move(1, 2), 3);
    Check.same("move the last to the place of the first", x.move(4, 0), 2);
    Check.same("exchange the first with the third", x.exchange(0, 2), 3);
    Parades.heights("then", x, 20, 10, 50, 30, 40);
    Check.same("exchange with itself", x.exchange(3, 3), 3);
    Check.same("move to its own place", x.move(4, 4), 3);
  }

  // ---- promise 7

  private static void nothingToArrange() {
    for (int floats = 0; floats <= 12; floats++) {
      FloatOrder x = Parades.carts(floats);
      int saved = x.count(8);
      Check.same("arrange " + floats + " carts", x.arrange(), 0);
      Parades.heights("arrange carts", x, Parades.numbers(heightsOfCarts(floats)));
      Check.same("arrange saves", x.count(8), Math.min(6, saved + 1));
    }
    FloatOrder giants = Parades.with("g90;g80");
    giants.bridge(10, 50);
    Check.same("no exchange makes it less", giants.arrange(), 0);
    Parades.heights("no exchange makes it less", giants, 90, 80);
  }

  /**
   * Two carts, of which 60 is lowered at both bridges and 40 at the second one. 60 ahead of 40: the first comes at 20 and
   * at 40 + L, the second at 42 + 2 L and, lowered, to the end at 122 + 3 L. 40 ahead of 60: 122 + 2 L.
   */
  private static FloatOrder pair(String text, int lowering) {
    FloatOrder x = Parades.with(text);
    x.bridge(10, 50);
    x.bridge(20, 30);
    x.set(3, lowering);
    return x;
  }

  /** "or, if it is the same, the end, becomes less": by one minute is enough, by none is not. */
  private static void anEndOneMinuteLess() {
    FloatOrder less = pair("c60;c40", 1);
    Check.same("the end before", less.count(3), 125);
    Check.same("one minute less", less.arrange(), 1);
    Check.same("the end then", less.count(3), 124);
    Parades.heights("one minute less", less, 40, 60);
    FloatOrder same = pair("c60;c40", 0);
    Check.same("the same end", same.arrange(), 0);
    Parades.heights("the same end", same, 60, 40);
    FloatOrder more = pair("c40;c60", 20);
    Check.same("a greater end", more.arrange(), 0);
    Parades.heights("a greater end", more, 40, 60);
  }

  private static void troubleComesBeforeTheEnd() {
    FloatOrder less = pair("c40;h60!c", 20);
    Check.same("trouble before", less.count(2), 3);
    Check.same("the end before", less.count(3), 162);
    Check.same("less trouble, a greater end", less.arrange(), 1);
    Check.same("trouble then", less.count(2), 0);
    Check.same("the end then", less.count(3), 182);
    FloatOrder more = pair("h60!c;c40", 20);
    Check.same("a lesser end, more trouble", more.arrange(), 0);
    Parades.heights("a lesser end, more trouble", more, 60, 40);
    // One less is enough: bands two places apart are one trouble, three places apart none.
    FloatOrder one = Parades.with("c40;b40;c40;b60");
    one.bridge(10, 50);
    one.bridge(20, 30);
    Check.same("trouble of one", one.count(2), 1);
    Check.same("one trouble less", one.arrange(), 1);
    Parades.property("one trouble less, the least end, the lowest first place", one, 0, 2, 0, 0, 2);
    Check.same("no trouble", one.count(2), 0);
  }

  /** "of several the one with the least end then". */
  private static void ofSeveralTheLeastEnd() {
    // Without trouble. 60 waits at all three bridges, 41 to 43 at the last one alone: 60 at the places 0 to 3 brings the
    // end 186, 176, 166 or 166.
    FloatOrder x = Parades.with("c60;c41;c42;c43");
    x.bridge(10, 45);
    x.bridge(20, 45);
    x.bridge(30, 25);
    x.set(3, 10);
    int[] ends = {186, 176, 166, 166};
    for (int other = 1; other < 4; other++) {
      x.exchange(0, other);
      Check.same("the end after the exchange with " + other, x.count(3), ends[other]);
      x.undo();
    }
    Check.same("the end at first", x.count(3), ends[0]);
    Check.same("arrange", x.arrange(), 1);
    Check.same("the end then", x.count(3), 166);
    Parades.heights("not the first better one, nor the last", x, 42, 41, 60, 43);
  }

  /** "of these the one with the lowest first place, then the lowest other place". */
  private static void theLowestFirstPlaceThenTheLowestOther() {
    // (0, 3), (1, 2) and (1, 3) part the giants.
    FloatOrder first = Parades.with("g10;g11;c12;c13");
    Check.same("arrange", first.arrange(), 1);
    Parades.heights("the lowest first place", first, 13, 11, 12, 10);
    // (0, 3), (0, 4), (1, 2), (1, 3) and (1, 4) part them; (0, 2) does not.
    FloatOrder other = Parades.with("g10;g11;c12;c13;c14");
    Check.same("arrange", other.arrange(), 1);
    Parades.heights("then the lowest other place", other, 13, 11, 12, 10, 14);
  }

  /** The first and the last place take part: only their exchange takes the horses away from behind the carts. */
  private static void theFirstAndTheLastOfTwelve() {
    FloatOrder x = Parades.carts(11);
    x.put(11, 1, 90, 1);
    Check.same("trouble before", x.count(2), 4);
    Check.same("arrange", x.arrange(), 1);
    Parades.heights("the first and the last", x, 90, 21, 22, 23, 24, 25, 26, 27, 28, 29, 30, 20);
    Check.same("trouble then", x.count(2), 0);
    Check.same("arrange again", x.arrange(), 0);
  }

  /** "Undoable, as one call"; "Returns how many exchanges are done". */
  private static void arrangeIsUndoneAsOneCall() {
    // Trouble 2 + 1: (0, 3) leaves 1, then (2, 4) none.
    FloatOrder x = Parades.with("g10;g11;b12;b13;c14");
    Check.same("two exchanges", x.arrange(), 2);
    Parades.heights("two exchanges", x, 13, 11, 14, 10, 12);
    Check.same("one state saved", x.count(8), 2);
    Check.same("undo", x.undo(), 1);
    Parades.heights("both undone", x, 10, 11, 12, 13, 14);
  }
}
