/** The boundaries of 'Input text', and of promises 11 to 14. */
public final class TextEdgesTest {
  public static void main(String[] args) {
    eachCode();
    sixtyCharactersAndNoMore();
    clearingTheEmptyAndTheFullBuffer();
    whatMayComeNext();
    eachOrderOfTheKindsAtWhichTheyShy();
    eachHeightInAText();
    noErrorAtAll();
    theFirstOfSeveralErrors();
    theErrorAtEachPlace();
    floatsOfAnyLength();
    notCompleteIsNoSyntaxError();
    eachPartBecomesAFloat();
    behindTheLastOne();
    upToTwelve();
    allOrNone();
    sixtyCharactersOfFloats();
    putAllClearsTheBuffer();
    Check.end("TextEdgesTest");
  }

  private static FloatOrder written(int floats, String text) {
    FloatOrder x = Parades.carts(floats);
    Parades.write(x, text);
    return x;
  }

  private static void error(String text, int due) {
    FloatOrder x = written(0, text);
    Check.same("firstError of '" + text + "'", x.firstError(), due);
    Check.same("firstError of '" + text + "' again", x.firstError(), due);
    Check.same("the buffer of '" + text + "' stays", x.clearBuffer(), text.length());
  }

  // ---- promises 11 and 12

  /** "code: the character code, 33 to 126". */
  private static void eachCode() {
    for (int code = 33; code <= 126; code++) {
      FloatOrder x = new FloatOrder();
      Check.same("append(" + code + ")", x.append(code), 1);
      Check.same("the buffer's length", x.clearBuffer(), 1);
    }
    Parades.refused("append(32)", Parades.EMPTY, Parades.ARGUMENT, x -> x.append(32));
    Parades.refused("append(127)", Parades.EMPTY, Parades.ARGUMENT, x -> x.append(127));
  }

  /** "The buffer has at most 60 characters"; "Returns the new length of the buffer". */
  private static void sixtyCharactersAndNoMore() {
    FloatOrder x = new FloatOrder();
    for (int length = 1; length <= 60; length++) {
      Check.same("append", x.append('c'), length);
    }
    Parades.Made sixty = () -> written(0, "c".repeat(60));
    Parades.refused("a sixty-first", sixty, Parades.STATE, y -> y.append('c'));
    Parades.refused("a sixty-first, 33", sixty, Parades.STATE, y -> y.append(33));
    Parades.refused("a sixty-first, 126", sixty, Parades.STATE, y -> y.append(126));
    Parades.refused("a sixty-first of code 32", sixty, Parades.ARGUMENT, y -> y.append(32));
    Parades.refused("a sixty-first of code 127", sixty, Parades.ARGUMENT, y -> y.append(127));
    Parades.answered("a sixtieth", () -> written(0, "c".repeat(59)), y -> y.append('c'));
    Check.same("append saves nothing", x.count(8), 0);
  }

  /** "Returns the length that it had". */
  private static void clearingTheEmptyAndTheFullBuffer() {
    for (int length = 0; length <= 60; length++) {
      FloatOrder x = written(0, "~".repeat(length));
      long empty = new FloatOrder().digest();
      Check.same("clearBuffer of " + length, x.clearBuffer(), length);
      Check.same("clearBuffer of none", x.clearBuffer(), 0);
      Check.same("firstError then", x.firstError(), 0);
      Check.same("digest then", x.digest(), empty);
      Check.same("append then", x.append('c'), 1);
    }
  }

  // ---- promise 13

  /** Each of the 94 characters behind each kind of beginning: a syntax error, or none. */
  private static void whatMayComeNext() {
    String digits = "0123456789";
    next("", "chbg");
    for (String letter : new String[] {"c", "h", "b", "g"}) {
      next(letter, "123456789");
      next(letter + "1", digits);
      next(letter + "9", digits);
      next(letter + "10", letter.equals("h") ? "!;" : ";");
      next(letter + "99", letter.equals("h") ? "!;" : ";");
      next(letter + "10;", "chbg");
    }
    next("h10!", "chbg");
    next("h10!c", "hbg;");
    next("h10!h", "bg;");
    next("h10!b", "g;");
    next("h10!g", ";");
    next("h10!ch", "bg;");
    next("h10!cb", "g;");
    next("h10!cg", ";");
    next("h10!chbg", ";");
    next("h10!chbg;", "chbg");
    // What has been shied at in the part before is forgotten.
    next("h10!g;h10!", "chbg");
    next("h10!g;h10", "!;");
    next("h10;c10", ";");
  }

  private static void next(String beginning, String allowed) {
    for (int code = 33; code <= 126; code++) {
      int due = beginning.length() + (allowed.indexOf(code) >= 0 ? 1 : 0);
      error(beginning + (char) code, due);
    }
  }

  /** "one or more unlike letters, the kinds at which they shy, in the order c, h, b, g". */
  private static void eachOrderOfTheKindsAtWhichTheyShy() {
    String letters = "chbg";
    for (int first = 0; first < 4; first++) {
      for (int second = 0; second < 4; second++) {
        String two = "h10!" + letters.charAt(first) + letters.charAt(second);
        error(two, second > first ? 6 : 5);
      }
    }
    for (int mask = 1; mask <= 15; mask++) {
      StringBuilder text = new StringBuilder("h10!");
      for (int kind = 0; kind <= 3; kind++) {
        if ((mask & 1 << kind) != 0) {
          text.append(letters.charAt(kind));
        }
      }
      error(text.toString(), text.length());
      FloatOrder x = written(0, text.toString());
      x.putAll();
      Check.same("the mask of " + text, x.floatAt(0, 2), mask);
    }
  }

  /** "and a height, 10 to 99". */
  private static void eachHeightInAText() {
    for (int height = 0; height <= 9; height++) {
      error("c0" + height, 1);
      error("c" + height, height == 0 ? 1 : 2);
    }
    for (int height = 10; height <= 99; height++) {
      error("c" + height, 3);
      FloatOrder x = written(0, "c" + height);
      Check.same("putAll of c" + height, x.putAll(), 1);
      Check.same("the height of c" + height, x.floatAt(0, 1), height);
    }
    error("c100", 3);
    error("c999", 3);
  }

  /** "the length of the buffer if there is none"; of the empty buffer 0. */
  private static void noErrorAtAll() {
    error("", 0);
    String sixty = Parades.SIXTY;
    Check.same("sixty characters", sixty.length(), 60);
    for (int length = 1; length <= 60; length++) {
      error(sixty.substring(0, length), length);
    }
  }

  private static void theFirstOfSeveralErrors() {
    error("x!", 0);
    error("c1xyz", 2);
    error("c10;;;", 4);
    error("c10!c;h10!cc", 3);
    error("cc10", 1);
    // What would go on without the wrong character is not read any more.
    error("xc10;b20", 0);
    error("c10x;b20", 3);
  }

  /** The error at the first and at the last of sixty places, and between. */
  private static void theErrorAtEachPlace() {
    for (int index = 0; index < 60; index++) {
      String text = Parades.SIXTY.substring(0, index) + "~" + Parades.SIXTY.substring(index + 1);
      error(text, index);
    }
  }

  /** "no floats as a text, of any length": more than 12 floats, and more than 60 characters, are no syntax error. */
  private static void floatsOfAnyLength() {
    error("c10;".repeat(13), 52);
    error("c10;".repeat(15), 60);
    error("c10;".repeat(14) + "h10!", 60);
    FloatOrder x = written(12, "c10;b20");
    Check.same("behind 12 floats", x.firstError(), 7);
  }

  private static void notCompleteIsNoSyntaxError() {
    for (String text : new String[] {"c", "c1", "c10;", "h10!", "h10!c;", "c10;h", "c10;h1"}) {
      error(text, text.length());
      Parades.refused("putAll of '" + text + "'", () -> written(2, text), Parades.ARGUMENT, FloatOrder::putAll);
    }
  }

  // ---- promise 14

  private static void eachPartBecomesAFloat() {
    FloatOrder x = written(0, "c10;h20;h30!cg;b40;g50;h99!chbg;c11");
    Check.same("putAll", x.putAll(), 7);
    Parades.property("kinds", x, 0, 0, 1, 1, 2, 3, 1, 0);
    Parades.heights("heights", x, 10, 20, 30, 40, 50, 99, 11);
    Parades.property("masks", x, 2, 0, 0, 9, 0, 0, 15, 0);
    Parades.property("not folded", x, 3, 0, 0, 0, 0, 0, 0, 0);
    FloatOrder one = written(0, "h10!b");
    Check.same("a single part", one.putAll(), 1);
    Check.same("its mask", one.floatAt(0, 2), 4);
  }

  /** "Puts the floats in the buffer behind the last one, in their order". */
  private static void behindTheLastOne() {
    FloatOrder x = written(2, "b90;g80");
    Check.same("putAll", x.putAll(), 4);
    Parades.heights("putAll", x, 20, 21, 90, 80);
    Parades.write(x, "h70");
    Check.same("putAll again", x.putAll(), 5);
    Parades.heights("putAll again", x, 20, 21, 90, 80, 70);
  }

  private static String parts(int number) {
    StringBuilder text = new StringBuilder("b70");
    for (int i = 1; i < number; i++) {
      text.append(";b").append(70 + i);
    }
    return text.toString();
  }

  /** "if there would be more than 12": 12 are not. */
  private static void upToTwelve() {
    for (int floats = 0; floats <= 12; floats++) {
      int own = floats;
      if (floats < 12) {
        FloatOrder x = written(floats, parts(12 - floats));
        Check.same("putAll up to 12 behind " + floats, x.putAll(), 12);
        Check.same("the last one", x.floatAt(11, 1), 70 + 11 - floats);
        Check.same("the buffer", x.clearBuffer(), 0);
      }
      Parades.refused("putAll of one too many behind " + floats, () -> written(own, parts(13 - own)), Parades.STATE,
          FloatOrder::putAll);
    }
    Parades.refused("putAll of 15", () -> written(0, parts(15)), Parades.STATE, FloatOrder::putAll);
  }

  /** "all or none". */
  private static void allOrNone() {
    FloatOrder x = written(11, "b70;b71");
    Check.same("too many", Parades.thrown(x, FloatOrder::putAll) == Parades.STATE ? 1 : 0, 1);
    Check.same("none is put", x.count(0), 11);
    x.remove(0);
    Check.same("both are put", x.putAll(), 12);
    FloatOrder y = written(1, "b70;b71;x");
    Check.same("wrong", Parades.thrown(y, FloatOrder::putAll) == Parades.ARGUMENT ? 1 : 0, 1);
    Check.same("none is put", y.count(0), 1);
    Check.same("the buffer stays", y.clearBuffer(), 9);
  }

  private static void sixtyCharactersOfFloats() {
    FloatOrder x = written(5, Parades.SIXTY);
    Check.same("putAll of sixty characters", x.putAll(), 12);
    Parades.heights("sixty characters", x, 20, 21, 22, 23, 24, 10, 11, 12, 13, 14, 15, 16);
    Check.same("the last mask", x.floatAt(11, 2), 3);
    Parades.refused("sixty characters, behind 6", () -> written(6, Parades.SIXTY), Parades.STATE, FloatOrder::putAll);
  }

  /** "and clears the buffer", so that it takes 60 characters again. */
  private static void putAllClearsTheBuffer() {
    FloatOrder x = written(0, Parades.SIXTY);
    x.putAll();
    Check.same("firstError", x.firstError(), 0);
    for (int length = 1; length <= 60; length++) {
      Check.same("append again", x.append('!'), length);
    }
    FloatOrder empty = written(0, "c10");
    empty.putAll();
    Check.same("putAll of nothing", Parades.thrown(empty, FloatOrder::putAll) == Parades.ARGUMENT ? 1 : 0, 1);
    Check.same("cleared", empty.clearBuffer(), 0);
  }
}
