/** Counts and tells the answers that are not as due; a test ends with {@link #end()}. */
final class Check {
  private static int asked = 0;
  private static int wrong = 0;

  private Check() { }

  static void due(String call, long got, long want) {
    asked++;
    if (got != want) {
      wrong++;
      if (wrong <= 40) {
        System.out.println(call + " answered " + got + ", due is " + want);
      }
    }
  }

  static void holds(String what, boolean isSo) {
    due(what, isSo ? 1 : 0, 1);
  }

  /** Feeds a text to THE TAPE, eight bytes a call. */
  static void feed(CoarserOrders x, String text) {
    for (int from = 0; from < text.length(); from += 8) {
      int n = Math.min(8, text.length() - from);
      long eight = 0;
      for (int i = 0; i < n; i++) {
        eight |= (long) (text.charAt(from + i) & 255) << (8 * i);
      }
      x.feed(eight, n);
    }
  }

  static void end() {
    System.out.println(asked + " answers, " + wrong + " wrong");
    if (wrong != 0 || asked == 0) {
      System.exit(1);
    }
  }
}
