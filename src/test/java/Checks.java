/** What the tests by hand share: answers that are due, texts written and laid. */
final class Checks {
  static final int BAD = -1, NO = -2, FULL = -3, NONE = -4;
  private int passed = 0, failed = 0;

  void due(String call, long got, long want) {
    if (got == want) { passed++; return; }
    failed++;
    System.out.println(call + " answered " + got + ", due is " + want);
  }

  void holds(String what, boolean so) { due(what, so ? 1 : 0, 1); }

  void end(String name) {
    System.out.println(name + ":");
    System.out.println(passed + " passed, " + failed + " failed");
    if (failed > 0) System.exit(1);
  }

  static String times(String s, int n) { return s.repeat(n); }

  /** By eights, so that an object has most of its 512 calls left. */
  static void add(WalkersSay x, String text) {
    for (int at = 0; at < text.length(); at += 8) {
      int n = Math.min(8, text.length() - at);
      long v = 0;
      for (int i = 0; i < n; i++) v = v << 8 | text.charAt(at + i) & 255;
      x.write(n, v);
    }
  }

  static WalkersSay written(String text) {
    WalkersSay x = new WalkersSay();
    add(x, text);
    return x;
  }

  WalkersSay laid(String text) {
    WalkersSay x = written(text);
    if (x.lay() < 0) due("fault of " + text, x.fault(), NONE);
    return x;
  }

  /** Just 20 corners: a row of them. */
  static final String CORNERS_20 = "a" + times("1", 19) + ";";
  static final String CORNERS_21 = "a" + times("1", 20) + ";";
  /** Just 200 ends at 19 corners: 1 + 18 * (5 + 6), and one more whose lane leads to the first end. */
  static final String ENDS_200 = "a" + times("5#60", 18) + "1a0;";
  /** One lane more leads to a corner of one end; the corners are 20 then. */
  static final String ENDS_201 = "a" + times("5#60", 18) + "1a01;";
}
