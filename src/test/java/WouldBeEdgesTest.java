import java.math.BigInteger;
import java.util.ArrayList;
import java.util.List;

/** The boundaries of promises 22 to 24 and 27. */
public final class WouldBeEdgesTest {
  public static void main(String[] args) {
    eachMoveThatCouldBe();
    ifMovedToItsOwnPlace();
    theBestPlaceOfTheOnlyOne();
    theFirstAndTheLastPlace();
    allPlacesTheSame();
    bestPlaceByTheEnd();
    bestPlaceByTheTroubleFirst();
    noFloatToFold();
    onlyThoseThatAreNotFolded();
    foldingThatHelps();
    theLowestOfSeveralToFold();
    theDigestOfANewObject();
    theDigestOfEachList();
    theDigestOverflows();
    theBitsOfEachShare();
    Check.end("WouldBeEdgesTest");
  }

  // ---- promise 22

  /** "what: 0: the trouble; 1: the end", from each place to each place, as if the float were moved. */
  private static void eachMoveThatCouldBe() {
    Parades.Made[] each = {Parades.SMALL, Parades.FULL, () -> Parades.with("g60"), () -> Parades.with("b20;b30")};
    for (Parades.Made made : each) {
      FloatOrder x = made.make();
      int floats = x.count(0);
      for (int place = 0; place < floats; place++) {
        for (int to = 0; to < floats; to++) {
          FloatOrder moved = made.make();
          int trouble = moved.move(place, to);
          String what = "ifMoved(" + place + ", " + to + ") of " + floats;
          Check.same(what + ", the trouble", x.ifMoved(place, to, 0), trouble);
          Check.same(what + ", the end", x.ifMoved(place, to, 1), moved.count(3));
        }
      }
    }
    FloatOrder x = Parades.FULL.make();
    long before = x.digest();
    x.ifMoved(0, 11, 0);
    x.ifMoved(11, 0, 1);
    Check.same("ifMoved changes nothing", x.digest(), before);
    Check.same("ifMoved saves nothing", x.count(8), 6);
  }

  private static void ifMovedToItsOwnPlace() {
    FloatOrder x = Parades.FULL.make();
    for (int place = 0; place < 12; place++) {
      Check.same("the trouble as it is", x.ifMoved(place, place, 0), x.count(2));
      Check.same("the end as it is", x.ifMoved(place, place, 1), x.count(3));
    }
    FloatOrder one = Parades.with("g99");
    Check.same("the trouble of one", one.ifMoved(0, 0, 0), 0);
    Check.same("the end of one", one.ifMoved(0, 0, 1), 120);
    Parades.refused("of one to 1", () -> Parades.with("g99"), Parades.PLACE, y -> y.ifMoved(0, 1, 0));
    Parades.refused("of one, what 2", () -> Parades.with("g99"), Parades.ARGUMENT, y -> y.ifMoved(0, 0, 2));
    Parades.refused("of one, what -1", () -> Parades.with("g99"), Parades.ARGUMENT, y -> y.ifMoved(0, 0, -1));
  }

  // ---- promise 23

  private static void theBestPlaceOfTheOnlyOne() {
    Check.same("bestPlace of the only one", Parades.with("h99!chbg").bestPlace(0), 0);
    Parades.refused("bestPlace of none", Parades.EMPTY, Parades.PLACE, x -> x.bestPlace(0));
    Parades.refused("bestPlace behind the only one", () -> Parades.with("c10"), Parades.PLACE, x -> x.bestPlace(1));
  }

  /** The place at which the float stands, the first one and the last one take part. */
  private static void theFirstAndTheLastPlace() {
    FloatOrder x = new FloatOrder();
    x.put(0, 0, 20, 0);
    for (int place = 1; place < 12; place++) {
      x.put(place, 1, 20, 1);
    }
    Check.same("behind all the horses that shy at it", x.bestPlace(0), 11);
    x.move(0, 11);
    Check.same("it stands there already", x.bestPlace(11), 11);
    FloatOrder y = Parades.carts(11);
    y.put(11, 1, 20, 1);
    Check.same("ahead of all at which they shy", y.bestPlace(11), 0);
    y.move(11, 0);
    Check.same("they stand there already", y.bestPlace(0), 0);
    // g c g: between is the only place without trouble.
    Check.same("between two giants", Parades.with("g20;g21;c22").bestPlace(2), 1);
    Check.same("between two giants already", Parades.with("g20;c22;g21").bestPlace(1), 1);
  }

  /** "of these the lowest". */
  private static void allPlacesTheSame() {
    FloatOrder x = Parades.carts(12);
    for (int place = 0; place < 12; place++) {
      Check.same("bestPlace(" + place + ")", x.bestPlace(place), 0);
    }
    // With the cart at 0 or at 4 the bands are three places apart, otherwise four: there is no trouble anywhere.
    FloatOrder y = Parades.with("b20;c21;c22;c23;b24");
    Check.same("the lowest of several without trouble", y.bestPlace(3), 0);
    // At 0 and at 1 the giant stands beside the other one; at 2, 3 and 4 it does not.
    FloatOrder z = Parades.with("g20;g21;c22;c23;c24");
    Check.same("not the first, but the lowest of several", z.bestPlace(1), 2);
  }

  /** "of several the one with the least end": one minute less is enough. */
  private static void bestPlaceByTheEnd() {
    for (int lowering = 0; lowering <= 2; lowering++) {
      FloatOrder x = Parades.with("c60;c40");
      x.bridge(10, 50);
      x.bridge(20, 30);
      x.set(3, lowering);
      Check.same("60 ahead of 40", x.ifMoved(0, 0, 1), 122 + 3 * lowering);
      Check.same("40 ahead of 60", x.ifMoved(0, 1, 1), 122 + 2 * lowering);
      Check.same("bestPlace of 60", x.bestPlace(0), lowering == 0 ? 0 : 1);
      Check.same("bestPlace of 40", x.bestPlace(1), 0);
    }
    FloatOrder y = Parades.with("c60;c41;c42;c43");
    y.bridge(10, 45);
    y.bridge(20, 45);
    y.bridge(30, 25);
    y.set(3, 10);
    int[] ends = {186, 176, 166, 166};
    for (int to = 0; to < 4; to++) {
      Check.same("the end, 60 at " + to, y.ifMoved(0, to, 1), ends[to]);
    }
    Check.same("the lowest of those with the least end", y.bestPlace(0), 2);
  }

  private static void bestPlaceByTheTroubleFirst() {
    // At 1 the horses shy, though the end is less.
    FloatOrder x = Parades.with("h60!c;c40");
    x.bridge(10, 50);
    x.bridge(20, 30);
    Check.same("the end ahead", x.ifMoved(0, 0, 1), 134);
    Check.same("the end behind", x.ifMoved(0, 1, 1), 130);
    Check.same("the trouble behind", x.ifMoved(0, 1, 0), 3);
    Check.same("bestPlace of the horses", x.bestPlace(0), 0);
    Check.same("bestPlace of the cart", x.bestPlace(1), 1);
  }

  // ---- promise 24

  /** "NONE if there is none": without floats, and if all are folded. */
  private static void noFloatToFold() {
    FloatOrder none = new FloatOrder();
    Check.same("without floats", none.bestFold(), FloatOrder.NONE);
    none.bridge(10, 10);
    Check.same("without floats, with a bridge", none.bestFold(), FloatOrder.NONE);
    for (int floats = 1; floats <= 12; floats++) {
      FloatOrder x = Parades.carts(floats);
      for (int place = 0; place < floats; place++) {
        Check.same("the next of " + floats, x.bestFold(), place);
        x.fold(place, true);
      }
      Check.same("all " + floats + " are folded", x.bestFold(), FloatOrder.NONE);
    }
  }

  /** "of the floats that are not folded": one of twelve. */
  private static void onlyThoseThatAreNotFolded() {
    for (int place = 0; place < 12; place++) {
      FloatOrder x = new FloatOrder();
      for (int other = 0; other < 12; other++) {
        x.put(other, 0, other == place ? 20 : 90, 0);
        x.fold(other, other != place);
      }
      x.bridge(10, 30);
      Check.same("the only one that is not folded", x.bestFold(), place);
      Check.same("it is not folded by that", x.floatAt(place, 3), 0);
    }
  }

  /** Folding helps just as far as the float is then not higher than the clearance; one minute less is enough. */
  private static void foldingThatHelps() {
    for (int lowering = 0; lowering <= 20; lowering++) {
      FloatOrder x = Parades.carts(11);
      x.put(11, 0, 60, 0);
      x.bridge(10, 40);
      x.set(3, lowering);
      Check.same("60 folded, under 40, by " + lowering, x.bestFold(), lowering == 0 ? 0 : 11);
      x.remove(11);
      x.put(11, 0, 61, 0);
      Check.same("61 folded, under 40, by " + lowering, x.bestFold(), 0);
    }
    FloatOrder low = Parades.with("c10;c11;c31;c30");
    low.bridge(10, 10);
    // 11 and 30 folded count as 10, 31 as 11: folding 11 or 30 takes four minutes off.
    Check.same("not less than 10", low.bestFold(), 1);
    low.fold(1, true);
    Check.same("31 and 30", low.bestFold(), 3);
  }

  private static void theLowestOfSeveralToFold() {
    FloatOrder x = Parades.with("c20;c50;c51;c20");
    x.bridge(10, 40);
    Check.same("the lowest of two", x.bestFold(), 1);
    FloatOrder y = Parades.with("c45;c50;c20");
    y.bridge(10, 40);
    y.bridge(20, 46);
    y.bridge(30, 46);
    // 45 is lowered once, 50 three times: folding 45 takes one lowering off, folding 50 three.
    Check.same("that by which the end is least", y.bestFold(), 1);
  }

  // ---- promise 27

  private static final BigInteger START = BigInteger.valueOf(2971);
  private static final BigInteger TIMES = BigInteger.valueOf(31);

  /** The hash without any overflow, of which a long keeps the lowest 64 bits. */
  private static BigInteger wholeHash(List<Long> values) {
    BigInteger hash = START;
    for (long value : values) {
      hash = hash.multiply(TIMES).add(BigInteger.valueOf(value));
    }
    return hash;
  }

  /** The values of the list, looked at one by one, on an object of their own. */
  private static List<Long> values(FloatOrder x, String buffer) {
    List<Long> values = new ArrayList<>();
    for (int what = 0; what <= 8; what++) {
      values.add((long) x.count(what));
    }
    for (int setting = 0; setting <= 3; setting++) {
      values.add((long) x.setting(setting));
    }
    int bridges = x.count(1);
    for (int bridge = 0; bridge < bridges; bridge++) {
      for (int what = 0; what <= 2; what++) {
        values.add((long) x.bridgeOf(bridge, what));
      }
    }
    for (int place = 0; place < x.count(0); place++) {
      for (int what = 0; what <= 6; what++) {
        values.add((long) x.floatAt(place, what));
      }
      for (int reason = 0; reason <= 2; reason++) {
        values.add((long) x.trouble(place, reason));
      }
      for (int bridge = 0; bridge < bridges; bridge++) {
        values.add((long) x.comes(place, bridge));
      }
      values.add((long) x.comes(place, FloatOrder.NONE));
      values.add((long) x.bestPlace(place));
    }
    values.add((long) x.bestFold());
    values.add((long) x.leastTrouble());
    values.add(Double.doubleToLongBits(x.smoothness()));
    values.add((long) buffer.length());
    for (int i = 0; i < buffer.length(); i++) {
      values.add((long) buffer.charAt(i));
    }
    return values;
  }

  private static void digest(String what, Parades.Made made, String buffer) {
    FloatOrder x = made.make();
    List<Long> values = values(x, buffer);
    Check.same("digest of " + what, made.make().digest(), wholeHash(values).longValue());
    Check.same("digest of " + what + ", after looks", x.digest(), wholeHash(values).longValue());
  }

  /** "The hash starts at 2971", and without floats, bridges and buffer it has 17 values. */
  private static void theDigestOfANewObject() {
    List<Long> due = List.of(0L, 0L, 0L, 0L, 0L, 0L, 0L, 0L, 0L, 3L, 2L, 2L, 4L, -1L, 0L,
        Double.doubleToLongBits(1.0), 0L);
    Check.same("digest of a new object", new FloatOrder().digest(), wholeHash(due).longValue());
    Check.same("digest once more", new FloatOrder().digest(), wholeHash(due).longValue());
    digest("a new object", Parades.EMPTY, "");
  }

  /** The empty and the full parade, way and buffer. */
  private static void theDigestOfEachList() {
    digest("a small parade", Parades.SMALL, "h10!");
    digest("a full parade", Parades.FULL, Parades.SIXTY);
    for (int floats = 1; floats <= 12; floats++) {
      int own = floats;
      digest(floats + " carts", () -> Parades.carts(own), "");
    }
    for (int bridges = 1; bridges <= 4; bridges++) {
      int own = bridges;
      digest(bridges + " bridges alone", () -> bridgesAlone(own), "");
    }
    for (int code = 33; code <= 126; code++) {
      String text = Character.toString(code);
      digest("the code " + code, () -> written(text), text);
      digest("sixty of the code " + code, () -> written(text.repeat(60)), text.repeat(60));
    }
    // Characters that are cleared, or put, are no part of it.
    FloatOrder cleared = written("abc");
    cleared.clearBuffer();
    Check.same("digest of a cleared buffer", cleared.digest(), new FloatOrder().digest());
  }

  private static FloatOrder bridgesAlone(int bridges) {
    FloatOrder x = new FloatOrder();
    for (int bridge = 0; bridge < bridges; bridge++) {
      x.bridge(50 - bridge, 10 + bridge);
    }
    return x;
  }

  private static FloatOrder written(String text) {
    FloatOrder x = new FloatOrder();
    Parades.write(x, text);
    return x;
  }

  /** "in long arithmetic with overflow": the whole hash is far longer than a long, and the digest has either sign. */
  private static void theDigestOverflows() {
    BigInteger whole = wholeHash(values(Parades.FULL.make(), Parades.SIXTY));
    Check.holds("the whole hash is longer than a long", whole.bitLength() > 1000);
    Check.same("its lowest 64 bits", Parades.FULL.make().digest(), whole.longValue());
    boolean isNegative = false;
    boolean isPositive = false;
    for (int length = 0; length <= 60; length++) {
      long digest = written("~".repeat(length)).digest();
      isNegative |= digest < 0;
      isPositive |= digest > 0;
      Check.holds("more than 32 bits", digest != (int) digest);
    }
    Check.holds("a digest below 0", isNegative);
    Check.holds("a digest above 0", isPositive);
  }

  /** "the bits of smoothness (as Double.doubleToLongBits)": each share that a parade can have. */
  private static void theBitsOfEachShare() {
    for (int floats = 1; floats <= 12; floats++) {
      for (int troubled = 0; troubled < floats; troubled++) {
        int giants = troubled + 1;
        int all = floats;
        digest((floats - troubled) + " of " + floats + " without trouble", () -> giants(giants, all), "");
      }
    }
  }

  private static FloatOrder giants(int giants, int floats) {
    FloatOrder x = new FloatOrder();
    for (int place = 0; place < floats; place++) {
      x.put(place, place < giants ? 3 : 0, 20, 0);
    }
    return x;
  }
}
