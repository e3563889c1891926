import java.util.ArrayList;
import java.util.List;

/** The boundaries of 'Trouble', of promises 16 and 17, and of what follows from trouble: promises 20, 25 and 26. */
public final class TroubleEdgesTest {
  private static final int CART = 0;
  private static final int HORSES = 1;
  private static final int BAND = 2;
  private static final int GIANT = 3;

  public static void main(String[] args) {
    shyingAtTheLastTwoAhead();
    othersNeverShy();
    theFirstFloatHasNoTrouble();
    bandsByHowFarTheyAreApart();
    twelveBands();
    giantsSideBySide();
    twelveGiants();
    trailingFloatsAddNothing();
    oneFloatManyTroubles();
    theTroubleOfTheParade();
    eachPropertyOfAFloat();
    leastTroubleOfUpToSix();
    leastTroubleWithOneToGoFirstOrLast();
    leastTroubleOfSevenAndMore();
    everyShare();
    Check.end("TroubleEdgesTest");
  }

  private static int[] cart() {
    return new int[] {CART, 20, 0};
  }

  private static int[] of(int kind) {
    return new int[] {kind, 20, 0};
  }

  // ---- the reasons

  /** "if it shies at the kind of the float at p - 1: 3, and if it shies at that of the one at p - 2: 1". */
  private static void shyingAtTheLastTwoAhead() {
    for (int mask = 0; mask <= 15; mask++) {
      for (int farthest = 0; farthest <= 3; farthest++) {
        for (int farther = 0; farther <= 3; farther++) {
          for (int next = 0; next <= 3; next++) {
            FloatOrder x = Parades.of(of(farthest), of(farther), of(next), new int[] {HORSES, 20, mask});
            int due = ((mask & 1 << next) != 0 ? 3 : 0) + ((mask & 1 << farther) != 0 ? 1 : 0);
            String what = "mask " + mask + " behind " + farthest + ", " + farther + ", " + next;
            Check.same(what, x.trouble(3, 0), due);
            Check.same(what + ", floatAt", x.floatAt(3, 6), due);
          }
        }
      }
    }
    FloatOrder second = Parades.with("c20;h20!c");
    Check.same("the second has one float ahead", second.trouble(1, 0), 3);
    FloatOrder third = Parades.with("c20;g20;h20!c");
    Check.same("two places behind", third.trouble(2, 0), 1);
    FloatOrder fourth = Parades.with("c20;g20;g20;h20!c");
    Check.same("three places behind", fourth.trouble(3, 0), 0);
    FloatOrder behind = Parades.with("h20!c;c20;c20");
    Check.same("what comes behind", behind.trouble(0, 0), 0);
    FloatOrder own = Parades.with("h20!h;h20");
    Check.same("not at themselves", own.trouble(0, 0), 0);
    Check.same("the other horses do not shy", own.trouble(1, 0), 0);
  }

  /** "only horses shy". */
  private static void othersNeverShy() {
    for (int kind : new int[] {CART, BAND, GIANT}) {
      for (int ahead = 0; ahead <= 3; ahead++) {
        FloatOrder x = Parades.of(of(ahead), of(ahead), of(kind));
        Check.same("kind " + kind + " behind " + ahead, x.trouble(2, 0), 0);
      }
    }
  }

  private static void theFirstFloatHasNoTrouble() {
    for (int kind = 0; kind <= 3; kind++) {
      int[] first = {kind, 20, kind == HORSES ? 15 : 0};
      FloatOrder x = Parades.of(first, of(kind), of(kind));
      for (int reason = 0; reason <= 2; reason++) {
        Check.same("the first, kind " + kind + ", reason " + reason, x.trouble(0, reason), 0);
      }
      Check.same("the first, kind " + kind, x.floatAt(0, 6), 0);
    }
  }

  /** "1 for each band that is fewer than setting 0 places ahead of it". */
  private static void bandsByHowFarTheyAreApart() {
    for (int apart = 1; apart <= 6; apart++) {
      for (int places = 1; places <= 11; places++) {
        int[][] floats = new int[places + 1][];
        for (int place = 0; place <= places; place++) {
          floats[place] = place == 0 || place == places ? of(BAND) : cart();
        }
        FloatOrder x = Parades.of(floats);
        x.set(0, apart);
        String what = "bands " + places + " apart, setting " + apart;
        Check.same(what, x.trouble(places, 1), places < apart ? 1 : 0);
        Check.same(what + ", the one ahead", x.trouble(0, 1), 0);
      }
    }
    FloatOrder x = Parades.with("b20;c20;c20;b20");
    Check.same("three apart, at first", x.trouble(3, 1), 0);
    x.remove(1);
    Check.same("two apart, at first", x.trouble(2, 1), 1);
    FloatOrder other = Parades.with("b20;c20;g20;h20");
    for (int place = 1; place <= 3; place++) {
      Check.same("no band behind a band", other.trouble(place, 1), 0);
    }
  }

  private static void twelveBands() {
    for (int apart = 1; apart <= 6; apart++) {
      int[][] floats = new int[12][];
      for (int place = 0; place < 12; place++) {
        floats[place] = of(BAND);
      }
      FloatOrder x = Parades.of(floats);
      x.set(0, apart);
      int sum = 0;
      for (int place = 0; place < 12; place++) {
        int due = Math.min(place, apart - 1);
        Check.same("band " + place + " of 12, setting " + apart, x.trouble(place, 1), due);
        sum += due;
      }
      Check.same("12 bands, setting " + apart, x.count(2), sum);
      Check.same("12 bands with trouble, setting " + apart, x.count(5), apart == 1 ? 0 : 11);
    }
  }

  /** "if it is a giant, 2 if there is a giant at p - 1". */
  private static void giantsSideBySide() {
    FloatOrder x = Parades.with("g20;g20;c20;g20");
    Check.same("a giant behind a giant", x.trouble(1, 2), 2);
    Check.same("a giant ahead of a giant", x.trouble(0, 2), 0);
    Check.same("a giant two places behind", x.trouble(3, 2), 0);
    Check.same("a cart behind a giant", x.trouble(2, 2), 0);
    for (int kind = 0; kind <= 2; kind++) {
      FloatOrder y = Parades.of(of(GIANT), of(kind), of(GIANT));
      Check.same("kind " + kind + " behind a giant", y.trouble(1, 2), 0);
      Check.same("a giant behind kind " + kind, y.trouble(2, 2), 0);
    }
  }

  private static void twelveGiants() {
    FloatOrder x = new FloatOrder();
    for (int place = 0; place < 12; place++) {
      x.put(place, GIANT, 20, 0);
    }
    for (int place = 0; place < 12; place++) {
      Check.same("giant " + place + " of 12", x.trouble(place, 2), place == 0 ? 0 : 2);
    }
    Check.same("12 giants", x.count(2), 22);
  }

  private static void trailingFloatsAddNothing() {
    FloatOrder x = Parades.with("c20;h20!c;b20;b20;g20;g20");
    int[] due = {0, 3, 0, 1, 0, 2};
    Parades.property("six floats", x, 6, due);
    x.remove(5);
    x.remove(4);
    Parades.property("four of them", x, 6, 0, 3, 0, 1);
  }

  /** Each reason counts only for floats of its own kind. */
  private static void oneFloatManyTroubles() {
    FloatOrder x = Parades.with("g20;b20;h20!bg;b20;b20;g20;g20");
    int[][] due = {{0, 0, 0}, {0, 0, 0}, {4, 0, 0}, {0, 1, 0}, {0, 1, 0}, {0, 0, 0}, {0, 0, 2}};
    for (int place = 0; place < due.length; place++) {
      int sum = 0;
      for (int reason = 0; reason <= 2; reason++) {
        Check.same("trouble(" + place + ", " + reason + ")", x.trouble(place, reason), due[place][reason]);
        sum += due[place][reason];
      }
      Check.same("trouble of " + place + " by all reasons", x.floatAt(place, 6), sum);
    }
  }

  /** "The trouble of the parade is that of all floats by all reasons together"; without floats there is none. */
  private static void theTroubleOfTheParade() {
    Check.same("without floats", new FloatOrder().count(2), 0);
    Check.same("floats with trouble, without floats", new FloatOrder().count(5), 0);
    FloatOrder x = Parades.with("g20;b20;h20!bg;b20;b20;g20;g20");
    Check.same("together", x.count(2), 8);
    Check.same("each float with trouble counts once", x.count(5), 4);
    Check.same("one float", Parades.with("h20!chbg").count(2), 0);
  }

  /** "what: 0 to 6", each at the first and the last place of twelve. */
  private static void eachPropertyOfAFloat() {
    FloatOrder x = Parades.carts(10);
    x.put(0, HORSES, 88, 15);
    x.put(11, HORSES, 99, 9);
    x.bridge(1, 67);
    x.bridge(50, 68);
    x.fold(0, true);
    int[] first = {1, 88, 15, 1, 68, 1, 0};
    int[] last = {1, 99, 9, 0, 99, 2, 4};
    for (int what = 0; what <= 6; what++) {
      Check.same("floatAt(0, " + what + ")", x.floatAt(0, what), first[what]);
      Check.same("floatAt(11, " + what + ")", x.floatAt(11, what), last[what]);
    }
    for (int reason = 0; reason <= 2; reason++) {
      Check.same("trouble(0, " + reason + ")", x.trouble(0, reason), 0);
      Check.same("trouble(11, " + reason + ")", x.trouble(11, reason), reason == 0 ? 4 : 0);
    }
  }

  // ---- promise 25

  /** "the least trouble of all orders": each order is put together by itself, and looked at. */
  private static void leastTroubleOfUpToSix() {
    Check.same("of none", new FloatOrder().leastTrouble(), 0);
    int[][] shy = {{HORSES, 20, 1}, {HORSES, 20, 2}, {HORSES, 20, 6}, {HORSES, 20, 15}, {HORSES, 20, 8}};
    int[][][] parades = {
        {of(GIANT)}, {of(BAND), of(BAND)}, {of(GIANT), of(GIANT)}, {of(GIANT), of(GIANT), cart()},
        {of(BAND), of(BAND), of(BAND), cart()}, {shy[0], cart(), cart(), shy[0]}, {shy[3], shy[3], shy[3], shy[3]},
        {shy[3], shy[1], of(GIANT), of(BAND), cart()}, {cart(), cart(), cart(), cart(), cart(), shy[0]},
        {of(BAND), of(BAND), of(BAND), of(BAND), of(BAND), of(BAND)},
        {of(GIANT), of(GIANT), of(GIANT), of(GIANT), shy[4], shy[3]},
        {of(BAND), of(BAND), of(BAND), of(GIANT), of(GIANT), of(GIANT)},
        {shy[0], shy[1], shy[2], shy[3], shy[4], cart()}, {shy[3], shy[3], shy[3], of(BAND), of(BAND), cart()}};
    for (int[][] parade : parades) {
      int due = leastOf(new ArrayList<>(), List.of(parade));
      Check.same("leastTrouble of " + parade.length, Parades.of(parade).leastTrouble(), due);
    }
  }

  /** Without trouble only if one of up to six floats, wherever it stands now, goes first, or goes last. */
  private static void leastTroubleWithOneToGoFirstOrLast() {
    for (int floats = 1; floats <= 6; floats++) {
      for (int place = 0; place < floats; place++) {
        FloatOrder first = new FloatOrder();
        FloatOrder last = new FloatOrder();
        for (int other = 0; other < floats; other++) {
          first.put(other, other == place ? HORSES : CART, 20, other == place ? 1 : 0);
          last.put(other, other == place ? CART : HORSES, 20, other == place ? 0 : 1);
        }
        int now = first.count(2);
        Check.same("horses at " + place + " of " + floats, first.leastTrouble(), 0);
        Check.same("a cart at " + place + " of " + floats, last.leastTrouble(), 0);
        Check.same("the floats stay as they are", first.count(2), now);
      }
    }
  }

  private static int leastOf(List<int[]> ahead, List<int[]> rest) {
    if (rest.isEmpty()) {
      return Parades.of(ahead.toArray(new int[0][])).count(2);
    }
    int least = Integer.MAX_VALUE;
    for (int i = 0; i < rest.size(); i++) {
      List<int[]> longer = new ArrayList<>(ahead);
      List<int[]> shorter = new ArrayList<>(rest);
      longer.add(shorter.remove(i));
      least = Math.min(least, leastOf(longer, shorter));
    }
    return least;
  }

  /** "if there are at most 6 floats; NONE otherwise". */
  private static void leastTroubleOfSevenAndMore() {
    FloatOrder x = Parades.with("g20;g20;g20;g20;g20;g20");
    Check.same("of six", x.leastTrouble(), 10);
    for (int floats = 7; floats <= 12; floats++) {
      x.put(0, CART, 20, 0);
      Check.same("of " + floats, x.leastTrouble(), FloatOrder.NONE);
    }
    for (int floats = 11; floats >= 7; floats--) {
      x.remove(0);
      Check.same("of " + floats + " again", x.leastTrouble(), FloatOrder.NONE);
    }
    x.remove(0);
    Check.same("of six again", x.leastTrouble(), 10);
  }

  // ---- promise 26

  /** "the floats without trouble, as a double, divided by the floats; 1.0 without floats". */
  private static void everyShare() {
    Check.sameShare("without floats", new FloatOrder().smoothness(), 1.0);
    for (int floats = 1; floats <= 12; floats++) {
      for (int troubled = 0; troubled < floats; troubled++) {
        FloatOrder x = new FloatOrder();
        for (int place = 0; place < floats; place++) {
          x.put(place, place <= troubled ? GIANT : CART, 20, 0);
        }
        Check.same("floats with trouble", x.count(5), troubled);
        Check.sameShare((floats - troubled) + " of " + floats, x.smoothness(), (double) (floats - troubled) / floats);
      }
    }
    FloatOrder emptied = Parades.with("g20;g20");
    emptied.remove(0);
    Check.sameShare("of one left", emptied.smoothness(), 1.0);
    emptied.remove(0);
    Check.sameShare("of none left", emptied.smoothness(), 1.0);
  }
}
