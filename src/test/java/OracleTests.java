/** Runs of calls at random, each answered by the class and by the plain oracle. */
public final class OracleTests {
  private static int asked = 0, wrong = 0;
  private static final int[] seen = new int[5];
  private static final int[][] smallests = new int[5][5];
  private static final StringBuilder run = new StringBuilder();

  private static void same(String call, int got, int want) {
    if (want == Oracle.UNSURE) return;
    asked++;
    if (want < 0 && want >= -4) seen[-want]++;
    run.append(call).append(" -> ").append(got).append('\n');
    if (got == want) return;
    wrong++;
    if (wrong < 4) System.out.println(run + "due was " + want);
  }

  public static void main(String[] args) {
    int runs = args.length > 0 ? Integer.parseInt(args[0]) : 600;
    int from = args.length > 1 ? Integer.parseInt(args[1]) : 0;
    for (int r = from; r < from + runs; r++) {
      run.setLength(0);
      run.append("run ").append(r).append('\n');
      oneRun(new Towns(r), r % 8 == 7 ? 290 : 60);
      if (wrong > 20) break;
    }
    for (int r = from; r < from + 4 * runs && wrong <= 20; r++) smallTown(new Towns(-1 - r));
    System.out.println("OracleTests: " + asked + " answers, BAD " + seen[1] + ", NO " + seen[2]
        + ", FULL " + seen[3] + ", NONE " + seen[4]);
    System.out.println("of 4 corners 1 to 4: " + java.util.Arrays.toString(smallests[4]));
    System.out.println((asked - wrong) + " passed, " + wrong + " failed");
    if (wrong > 0) System.exit(1);
  }

  private static void oneRun(Towns towns, int longest) {
    WalkersSay x = new WalkersSay();
    Oracle o = new Oracle();
    int texts = 1 + towns.below(3);
    for (int t = 0; t < texts; t++) {
      writeAll(x, o, towns, towns.text(towns.below(4), longest));
      same("fault()", x.fault(), o.fault());
      same("lay()", x.lay(), o.lay());
      ask(x, o, towns);
      int set = towns.below(1 << Math.max(1, o.count(1)));
      same("doubt(" + set + ")", x.doubt(set), o.doubt(set));
      ask(x, o, towns);
      if (o.corners() == Oracle.NO) {
        same("doubt(fewest)", x.doubt(x.fewest()), o.doubt(o.fewest()));
        ask(x, o, towns);
      }
      if (towns.below(2) == 0) same("keep()", x.keep(), o.keep());
      if (towns.below(3) == 0) same("wipe()", x.wipe(), o.wipe());
      if (towns.below(3) == 0) {
        same("back()", x.back(), o.back());
        ask(x, o, towns);
      }
    }
  }

  /** Towns so small that the oracle's search comes to its end: one object asks several. */
  private static void smallTown(Towns towns) {
    WalkersSay x = new WalkersSay();
    Oracle o = new Oracle();
    run.setLength(0);
    for (int t = 0; t < 4; t++) {
      writeAll(x, o, towns, towns.small());
      same("lay()", x.lay(), o.lay());
      same("pairs(-1)", x.pairs(-1), o.pairs(-1));
      same("smallest()", x.smallest(), o.smallest());
      if (x.smallest() > 0) smallests[Math.min(4, x.corners())][x.smallest()]++;
    }
  }

  private static void writeAll(WalkersSay x, Oracle o, Towns towns, String text) {
    same("wipe()", x.wipe(), o.wipe());
    run.append(text).append('\n');
    for (int at = 0; at < text.length();) {
      int n = Math.min(1 + towns.below(8), text.length() - at);
      long v = towns.below(3) == 0 ? towns.anyLong() : 0;
      for (int i = 0; i < n; i++) v = v << 8 | text.charAt(at + i) & 255;
      same("write(" + n + ", " + v + ")", x.write(n, v), o.write(n, v));
      at += n;
    }
  }

  private static void ask(WalkersSay x, Oracle o, Towns towns) {
    same("why()", x.why(), o.why());
    same("fewest()", x.fewest(), o.fewest());
    int corners = o.corners();
    same("corners()", x.corners(), corners);
    for (int what = -1; what <= 5; what++) {
      same("count(" + what + ")", x.count(what), o.count(what));
      same("town(" + what + ")", x.town(what), o.town(what));
    }
    for (int walk = -1; walk <= o.count(1); walk++) {
      int i = towns.below(12) - 1;
      same("corner(" + walk + ", " + i + ")", x.corner(walk, i), o.corner(walk, i));
    }
    for (int c = -1; c <= Math.max(corners, 0); c++) {
      for (int what = -1; what <= 4; what++) {
        same("about(" + c + ", " + what + ")", x.about(c, what), o.about(c, what));
      }
    }
    same("pairs(-1)", x.pairs(-1), o.pairs(-1));
    for (int n = 0; n < 3; n++) {
      int i = towns.below(12) - 2, a = towns.below(8) - 1, b = towns.below(8);
      same("pairs(" + i + ")", x.pairs(i), o.pairs(i));
      same("may(" + a + ", " + b + ")", x.may(a, b), o.may(a, b));
    }
    same("smallest()", x.smallest(), o.smallest());
    askWays(x, o, towns, corners);
  }

  private static void askWays(WalkersSay x, Oracle o, Towns towns, int corners) {
    for (int thing = -1; thing < 4; thing++) {
      for (int c = -1; c <= Math.max(corners, 0); c++) {
        for (int i = -2; i < 4; i++) {
          same("way(" + thing + ", " + c + ", " + i + ")", x.way(thing, c, i), o.way(thing, c, i));
        }
      }
      for (int n = 0; n < 4; n++) {
        int turnings = towns.below(15) - 1, what = towns.below(9) == 0 ? 2 : towns.below(2);
        long v = towns.below(10) == 0 ? towns.anyLong() << 12 : 0;
        for (int i = 0; i < turnings; i++) v = v << 4 | (towns.below(40) == 0 ? 6 : towns.below(12) % 6);
        same("told(" + thing + ", " + turnings + ", " + v + ", " + what + ")",
            x.told(thing, turnings, v, what), o.told(thing, turnings, v, what));
      }
    }
  }
}
