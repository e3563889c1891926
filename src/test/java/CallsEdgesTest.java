import java.util.ArrayList;
import java.util.List;

/**
 * "An object is used for at most 512 calls after it has been made": up to the last of them an object answers as one that
 * has come to the same state by few calls.
 */
public final class CallsEdgesTest {
  private static final int CALLS = 512;

  private record Named(String name, Parades.Call call) {
  }

  /** Each method, with what is allowed in Parades.SMALL and in Parades.FULL, or refused there. */
  private static final List<Named> EACH = List.of(
      new Named("put", x -> x.put(0, 1, 44, 9)), new Named("remove", x -> x.remove(1)),
      new Named("move", x -> x.move(0, 2)), new Named("exchange", x -> x.exchange(0, 2)),
      new Named("fold", x -> x.fold(1, true)), new Named("arrange", FloatOrder::arrange),
      new Named("bridge", x -> x.bridge(5, 50)), new Named("unbridge", x -> x.unbridge(1)),
      new Named("set", x -> x.set(2, 9)), new Named("append", x -> x.append('c')),
      new Named("clearBuffer", FloatOrder::clearBuffer), new Named("firstError", FloatOrder::firstError),
      new Named("putAll", FloatOrder::putAll), new Named("undo", FloatOrder::undo),
      new Named("floatAt", x -> x.floatAt(2, 6)), new Named("trouble", x -> x.trouble(2, 0)),
      new Named("comes", x -> x.comes(2, FloatOrder.NONE)), new Named("bridgeOf", x -> x.bridgeOf(1, 2)),
      new Named("count", x -> x.count(2)), new Named("setting", x -> x.setting(0)),
      new Named("ifMoved", x -> x.ifMoved(0, 2, 1)), new Named("bestPlace", x -> x.bestPlace(2)),
      new Named("bestFold", FloatOrder::bestFold), new Named("leastTrouble", FloatOrder::leastTrouble),
      new Named("smoothness", x -> Double.doubleToLongBits(x.smoothness())), new Named("digest", FloatOrder::digest));

  public static void main(String[] args) {
    eachMethodAsTheLastCall();
    eachMethodForAllCalls();
    theDigestAfterEachCall();
    everythingChangedAndUndone();
    Check.end("CallsEdgesTest");
  }

  private static String answer(FloatOrder x, Parades.Call call) {
    try {
      return Long.toString(call.on(x));
    } catch (RuntimeException e) {
      return e.getClass().getName();
    }
  }

  /** The calls that the parade took to be made: CALLS less these are left. */
  private static int callsToMake(Parades.Made made) {
    return made == Parades.SMALL ? 23 : 118;
  }

  /** Looks and refused calls change nothing, so that the last call answers as the first one would. */
  private static void eachMethodAsTheLastCall() {
    for (Parades.Made made : new Parades.Made[] {Parades.SMALL, Parades.FULL}) {
      for (Named last : EACH) {
        FloatOrder x = made.make();
        for (int call = callsToMake(made); call < CALLS - 1; call++) {
          answer(x, call % 3 == 0 ? FloatOrder::digest : call % 3 == 1 ? y -> y.put(0, 4, 10, 0) : y -> y.bestPlace(0));
        }
        FloatOrder few = made.make();
        Check.holds(last.name() + " as the last call", answer(x, last.call()).equals(answer(few, last.call())));
      }
    }
  }

  /** The same call again and again: what it answers at last is what it answers after as many as count. */
  private static void eachMethodForAllCalls() {
    for (Parades.Made made : new Parades.Made[] {Parades.SMALL, Parades.FULL}) {
      for (Named each : EACH) {
        FloatOrder x = made.make();
        String last = "";
        for (int call = callsToMake(made); call < CALLS - 1; call++) {
          last = answer(x, each.call());
        }
        Check.holds(each.name() + " for all calls threw " + last, last.matches("-?[0-9]+|java\\.lang\\.(Illegal(State"
            + "|Argument)|IndexOutOfBounds)Exception"));
        Check.holds("saved states after " + each.name(), x.count(8) <= 6);
      }
    }
  }

  private static void theDigestAfterEachCall() {
    FloatOrder x = new FloatOrder();
    List<Long> seen = new ArrayList<>();
    for (int pair = 0; pair < CALLS / 2; pair++) {
      x.set(3, pair % 21);
      seen.add(x.digest());
    }
    for (int pair = 6 + 21; pair < seen.size(); pair++) {
      Check.same("digest of the same setting, pair " + pair, seen.get(pair), seen.get(pair - 21));
    }
  }

  /** The same six states are saved, changed and restored for as long as an object is used. */
  private static void everythingChangedAndUndone() {
    FloatOrder x = Parades.FULL.make();
    x.set(1, 3);
    x.fold(3, true);
    long due = 0;
    int calls = callsToMake(Parades.FULL) + 2;
    for (int round = 0; calls + 13 <= CALLS; round++) {
      x.remove(11);
      x.unbridge(0);
      x.move(0, 10);
      x.arrange();
      x.set(3, 20);
      x.fold(0, round % 2 == 0);
      for (int i = 0; i < 6; i++) {
        x.undo();
      }
      long digest = x.digest();
      due = round == 0 ? digest : due;
      Check.same("digest after round " + round, digest, due);
      calls += 13;
    }
    Check.same("floats at last", x.count(0), 12);
  }
}
