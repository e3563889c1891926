import java.util.ArrayList;
import java.util.List;

/** The boundaries of 'Undo', and of promise 15: which calls save, how many states there are, and what they hold. */
public final class UndoEdgesTest {
  private record Named(String name, Parades.Call call) {
  }

  /** Each method that is marked "undoable", also where it changes nothing; all of them are allowed in Parades.SMALL. */
  private static final List<Named> UNDOABLE = List.of(
      new Named("put ahead", x -> x.put(0, 1, 44, 9)),
      new Named("put behind the last", x -> x.put(3, 0, 99, 0)),
      new Named("remove the first", x -> x.remove(0)),
      new Named("remove the last", x -> x.remove(2)),
      new Named("move", x -> x.move(0, 2)),
      new Named("move to its own place", x -> x.move(1, 1)),
      new Named("exchange", x -> x.exchange(0, 2)),
      new Named("exchange with itself", x -> x.exchange(1, 1)),
      new Named("fold", x -> x.fold(1, true)),
      new Named("fold a folded one", x -> x.fold(0, true)),
      new Named("unfold", x -> x.fold(0, false)),
      new Named("unfold one that is not folded", x -> x.fold(1, false)),
      new Named("arrange", FloatOrder::arrange),
      new Named("bridge ahead", x -> x.bridge(1, 99)),
      new Named("bridge at last", x -> x.bridge(50, 10)),
      new Named("unbridge the first", x -> x.unbridge(0)),
      new Named("unbridge the last", x -> x.unbridge(1)),
      new Named("set", x -> x.set(1, 9)),
      new Named("set the same", x -> x.set(0, 5)));

  /** Those that save nothing; all of them are allowed in Parades.SMALL. */
  private static final List<Named> OTHERS = List.of(
      new Named("append", x -> x.append('c')),
      new Named("clearBuffer", FloatOrder::clearBuffer),
      new Named("firstError", FloatOrder::firstError),
      new Named("floatAt", x -> x.floatAt(0, 6)),
      new Named("trouble", x -> x.trouble(0, 0)),
      new Named("comes", x -> x.comes(0, 0)),
      new Named("bridgeOf", x -> x.bridgeOf(0, 0)),
      new Named("count", x -> x.count(8)),
      new Named("setting", x -> x.setting(0)),
      new Named("ifMoved", x -> x.ifMoved(0, 2, 1)),
      new Named("bestPlace", x -> x.bestPlace(0)),
      new Named("bestFold", FloatOrder::bestFold),
      new Named("leastTrouble", FloatOrder::leastTrouble),
      new Named("smoothness", x -> (long) x.smoothness()),
      new Named("digest", FloatOrder::digest));

  public static void main(String[] args) {
    eachUndoableCallSavesOneState();
    theOthersSaveNothing();
    whatLooksDoNotChange();
    putAllSavesOneState();
    nothingToUndo();
    oneToTwentySavedStates();
    theOldestOneIsDroppedFirst();
    droppedForEachUndoableCall();
    undoSavesNothing();
    callsAfterUndo();
    theBufferIsNotSaved();
    everythingElseIsSaved();
    aRefusedCallSavesNothing();
    Check.end("UndoEdgesTest");
  }

  // ---- which calls save

  /** "Each method that is marked "undoable" and does not throw an exception saves the state ... (also if it changes nothing)". */
  private static void eachUndoableCallSavesOneState() {
    for (Named undoable : UNDOABLE) {
      FloatOrder x = Parades.SMALL.make();
      long before = x.digest();
      undoable.call().on(x);
      Check.same(undoable.name() + ": saved states", x.count(8), 6);
      Check.same(undoable.name() + ": undo", x.undo(), 5);
      Check.same(undoable.name() + ", undone: digest", x.digest(), before);
    }
  }

  private static void theOthersSaveNothing() {
    for (Named other : OTHERS) {
      FloatOrder x = Parades.SMALL.make();
      FloatOrder same = Parades.SMALL.make();
      other.call().on(x);
      Check.same(other.name() + ": saved states", x.count(8), 5);
      x.clearBuffer();
      same.clearBuffer();
      for (int left = 4; left >= 0; left--) {
        Check.same(other.name() + ": undo", x.undo(), left);
        same.undo();
        Check.same(other.name() + ": digest", x.digest(), same.digest());
      }
    }
  }

  /** "looks; nothing is changed", "what would be; nothing is changed". */
  private static void whatLooksDoNotChange() {
    for (Named other : OTHERS.subList(2, OTHERS.size())) {
      for (Parades.Made made : new Parades.Made[] {Parades.SMALL, Parades.FULL}) {
        FloatOrder x = made.make();
        long before = x.digest();
        other.call().on(x);
        Check.same(other.name() + ": digest", x.digest(), before);
      }
    }
  }

  private static void putAllSavesOneState() {
    FloatOrder x = Parades.with("c10");
    Parades.write(x, "c20;c30;c40");
    Check.same("putAll", x.putAll(), 4);
    Check.same("putAll: saved states", x.count(8), 2);
    Check.same("putAll: undo", x.undo(), 1);
    Parades.heights("putAll, undone", x, 10);
  }

  // ---- how many

  /** "Throws IllegalStateException if there is none". */
  private static void nothingToUndo() {
    Parades.refused("undo of nothing", Parades.EMPTY, Parades.STATE, FloatOrder::undo);
    FloatOrder x = Parades.with("c10");
    Check.same("undo the only one", x.undo(), 0);
    Check.same("no saved state is left", x.count(8), 0);
    Check.same("no float is left", x.count(0), 0);
    Check.holds("undo once more throws", Parades.thrown(x, FloatOrder::undo) == Parades.STATE);
    Check.holds("and again", Parades.thrown(x, FloatOrder::undo) == Parades.STATE);
    Check.same("still none", x.count(8), 0);
    Check.same("put then", x.put(0, 0, 10, 0), 1);
    Check.same("one saved state", x.count(8), 1);
  }

  /** The values of setting 3 in turn, and back again: 1 to 20 calls, of which six can be undone. */
  private static void oneToTwentySavedStates() {
    for (int calls = 1; calls <= 20; calls++) {
      FloatOrder x = new FloatOrder();
      x.set(3, 0);
      x.undo();
      for (int call = 1; call <= calls; call++) {
        x.set(3, call == 4 ? 0 : call);
        Check.same("saved after " + call, x.count(8), Math.min(call, 6));
      }
      int kept = Math.min(calls, 6);
      for (int undone = 1; undone <= kept; undone++) {
        Check.same("undo " + undone + " of " + calls, x.undo(), kept - undone);
        int value = calls - undone;
        Check.same("setting then", x.setting(3), value == 0 ? 4 : value == 4 ? 0 : value);
      }
      Check.holds("no more than six of " + calls, Parades.thrown(x, FloatOrder::undo) == Parades.STATE);
    }
  }

  /** "At most 6 states are saved; the oldest one is dropped first." */
  private static void theOldestOneIsDroppedFirst() {
    FloatOrder six = Parades.carts(6);
    Check.same("six states", six.count(8), 6);
    for (int left = 5; left >= 0; left--) {
      Check.same("undo", six.undo(), left);
      Check.same("floats", six.count(0), left);
    }
    FloatOrder seven = Parades.carts(7);
    Check.same("six states of seven", seven.count(8), 6);
    for (int left = 5; left >= 0; left--) {
      Check.same("undo", seven.undo(), left);
      Check.same("floats", seven.count(0), left + 1);
    }
    Check.holds("the seventh is gone", Parades.thrown(seven, FloatOrder::undo) == Parades.STATE);
    Check.same("one float is left", seven.count(0), 1);
  }

  private static void droppedForEachUndoableCall() {
    for (Named undoable : UNDOABLE) {
      FloatOrder x = Parades.SMALL.make();
      x.set(2, 7);
      Check.same("six are saved", x.count(8), 6);
      undoable.call().on(x);
      Check.same(undoable.name() + ": still six", x.count(8), 6);
      for (int left = 5; left >= 0; left--) {
        Check.same(undoable.name() + ": undo", x.undo(), left);
      }
      // The first state of all, that without floats, is dropped.
      Check.same(undoable.name() + ": the floats of putAll", x.count(0), 3);
      Check.same(undoable.name() + ": no bridge yet", x.count(1), 0);
    }
  }

  /** "Restores the latest saved state, and drops it": what is undone can't be had back. */
  private static void undoSavesNothing() {
    FloatOrder x = Parades.carts(3);
    Check.same("undo", x.undo(), 2);
    Check.same("undo", x.undo(), 1);
    Check.same("undo", x.undo(), 0);
    Check.same("no floats", x.count(0), 0);
  }

  private static void callsAfterUndo() {
    FloatOrder x = Parades.carts(9);
    for (int i = 0; i < 4; i++) {
      x.undo();
    }
    Parades.heights("four undone", x, 20, 21, 22, 23, 24);
    Check.same("two are left", x.count(8), 2);
    for (int i = 0; i < 5; i++) {
      x.put(0, 0, 90 + i, 0);
    }
    Check.same("six again", x.count(8), 6);
    for (int i = 0; i < 5; i++) {
      x.undo();
    }
    Parades.heights("as after the first undoing", x, 20, 21, 22, 23, 24);
    Check.same("one is left", x.undo(), 0);
    Parades.heights("the one from before", x, 20, 21, 22, 23);
    Check.holds("and none", Parades.thrown(x, FloatOrder::undo) == Parades.STATE);
  }

  // ---- what is saved

  /** "all, but the buffer and the saved states". */
  private static void theBufferIsNotSaved() {
    FloatOrder later = Parades.with("c10");
    Parades.write(later, "x");
    later.undo();
    Check.same("what is appended later stays", later.clearBuffer(), 1);
    FloatOrder earlier = new FloatOrder();
    Parades.write(earlier, "abc");
    earlier.put(0, 0, 10, 0);
    Check.same("cleared", earlier.clearBuffer(), 3);
    earlier.undo();
    Check.same("what is cleared does not come back", earlier.clearBuffer(), 0);
    FloatOrder all = Parades.carts(2);
    Parades.write(all, "c10");
    all.putAll();
    all.undo();
    Check.same("what putAll has put does not come back", all.clearBuffer(), 0);
    Parades.heights("its floats are gone", all, 20, 21);
    FloatOrder other = Parades.carts(2);
    Parades.write(other, "c10;b11");
    other.putAll();
    Parades.write(other, "g99");
    other.undo();
    Check.same("what is written after putAll stays", other.firstError(), 3);
    Check.same("and is put", other.putAll(), 3);
    Check.same("as it is", other.floatAt(2, 1), 99);
  }

  /** Kinds, heights, masks and folds of 12 floats, 4 bridges, and each setting. */
  private static void everythingElseIsSaved() {
    FloatOrder x = Parades.FULL.make();
    FloatOrder same = Parades.FULL.make();
    x.set(0, 1);
    x.set(3, 20);
    x.unbridge(0);
    x.arrange();
    x.remove(11);
    x.fold(3, false);
    for (int i = 0; i < 6; i++) {
      x.undo();
    }
    // The digest may differ, as the states that Parades.FULL has saved are dropped, and count(8) is a part of it.
    for (int place = 0; place < 12; place++) {
      for (int what = 0; what <= 6; what++) {
        Check.same("floatAt(" + place + ", " + what + ")", x.floatAt(place, what), same.floatAt(place, what));
      }
      for (int bridge = -1; bridge < 4; bridge++) {
        Check.same("comes(" + place + ", " + bridge + ")", x.comes(place, bridge), same.comes(place, bridge));
      }
    }
    for (int bridge = 0; bridge < 4; bridge++) {
      for (int what = 0; what <= 2; what++) {
        Check.same("bridgeOf(" + bridge + ", " + what + ")", x.bridgeOf(bridge, what), same.bridgeOf(bridge, what));
      }
    }
    for (int setting = 0; setting <= 3; setting++) {
      Check.same("setting(" + setting + ")", x.setting(setting), same.setting(setting));
    }
    Check.same("the buffer", x.clearBuffer(), 60);
  }

  /** With six saved states a refused call drops none, with none it saves none. */
  private static void aRefusedCallSavesNothing() {
    List<Named> refused = new ArrayList<>(List.of(
        new Named("put", x -> x.put(0, 0, 20, 0)), new Named("put wrong", x -> x.put(0, 9, 20, 0)),
        new Named("put nowhere", x -> x.put(13, 0, 20, 0)), new Named("remove", x -> x.remove(12)),
        new Named("move", x -> x.move(0, 12)), new Named("exchange", x -> x.exchange(12, 0)),
        new Named("fold", x -> x.fold(12, true)), new Named("bridge", x -> x.bridge(2, 20)),
        new Named("bridge wrong", x -> x.bridge(51, 20)), new Named("unbridge", x -> x.unbridge(4)),
        new Named("set", x -> x.set(0, 7)), new Named("set none", x -> x.set(4, 1)),
        new Named("putAll", FloatOrder::putAll)));
    for (Named call : refused) {
      FloatOrder x = Parades.FULL.make();
      Check.holds(call.name() + " throws", Parades.thrown(x, call.call()) != null);
      Check.same(call.name() + ": saved states", x.count(8), 6);
      for (int left = 5; left >= 0; left--) {
        Check.same(call.name() + ": undo", x.undo(), left);
      }
      // Of putAll, two times put, four bridges, fold and set the last six are saved.
      Check.same(call.name() + ": floats", x.count(0), 12);
      Check.same(call.name() + ": bridges", x.count(1), 0);
    }
    FloatOrder none = new FloatOrder();
    Parades.thrown(none, x -> x.put(1, 0, 20, 0));
    Parades.thrown(none, x -> x.set(0, 0));
    Parades.thrown(none, x -> x.bridge(0, 10));
    Parades.thrown(none, FloatOrder::putAll);
    Parades.thrown(none, FloatOrder::undo);
    Check.same("none is saved", none.count(8), 0);
  }
}
