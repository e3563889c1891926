/** Counts what a test finds wrong, and ends it with the exit code that .ci/run looks at. */
final class Check {
  private static int checks = 0;
  private static int wrong = 0;

  private Check() {
  }

  static void same(String what, long answered, long due) {
    checks++;
    if (answered != due) {
      fail(what + " answered " + answered + ", due is " + due);
    }
  }

  static void sameShare(String what, double answered, double due) {
    same(what + " (as bits)", Double.doubleToRawLongBits(answered), Double.doubleToRawLongBits(due));
  }

  static void holds(String what, boolean isSo) {
    checks++;
    if (!isSo) {
      fail(what);
    }
  }

  static void fail(String what) {
    wrong++;
    if (wrong <= 50) {
      System.out.println("wrong: " + what);
    }
  }

  static void end(String test) {
    System.out.println(test + ": " + checks + " checks, " + wrong + " wrong");
    if (wrong != 0 || checks == 0) {
      System.exit(1);
    }
  }
}
