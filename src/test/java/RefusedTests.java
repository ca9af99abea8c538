import java.util.ArrayList;
import java.util.List;
import java.util.function.Supplier;
import java.util.function.ToIntFunction;

/** Of several answers the first is given; and nothing changes by a call that is refused. */
public final class RefusedTests {
  private static final int BAD = Checks.BAD, NO = Checks.NO, FULL = Checks.FULL, NONE = Checks.NONE;
  private static final Checks t = new Checks();

  private record Call(String name, int due, ToIntFunction<WalkersSay> on) {}

  public static void main(String[] args) {
    inATownThatStands();
    inATownThatBars();
    inATownThatIsFull();
    inATownThatBarsAndIsFull();
    inANewObject();
    t.end("RefusedTests");
  }

  // ---- the objects: LAID, DOUBTED, KEPT and THE TEXT are unlike in each, so that a change shows

  private static WalkersSay made(String kept, String laid, int doubts, String text) {
    WalkersSay x = t.laid(kept);
    x.doubt(1);
    x.keep();
    x.wipe();
    Checks.add(x, laid);
    x.lay();
    x.doubt(doubts);
    x.wipe();
    Checks.add(x, text);
    return x;
  }

  private static void inATownThatStands() {
    List<Call> calls = new ArrayList<>();
    always(calls, 3);
    calls.add(new Call("corner(1, 0), DOUBTED", BAD, x -> x.corner(1, 0)));
    calls.add(new Call("corner(3, 0)", BAD, x -> x.corner(3, 0)));
    calls.add(new Call("corner(0, 4)", BAD, x -> x.corner(0, 4)));
    calls.add(new Call("about(5, 0)", BAD, x -> x.about(5, 0)));
    calls.add(new Call("about(-1, 2)", BAD, x -> x.about(-1, 2)));
    calls.add(new Call("about(1, 2), no thing", NONE, x -> x.about(1, 2)));
    calls.add(new Call("may(0, 5)", BAD, x -> x.may(0, 5)));
    calls.add(new Call("may(-1, 0)", BAD, x -> x.may(-1, 0)));
    calls.add(new Call("pairs(99)", NONE, x -> x.pairs(99)));
    calls.add(new Call("smallest(), five corners", NO, x -> x.smallest()));
    calls.add(new Call("way(0, 5, -1)", BAD, x -> x.way(0, 5, -1)));
    calls.add(new Call("way(7, 5, -1), not told", BAD, x -> x.way(7, 5, -1)));
    calls.add(new Call("way(7, 0, -1), not told", NONE, x -> x.way(7, 0, -1)));
    calls.add(new Call("way(0, 4, -1), no way", NONE, x -> x.way(0, 4, -1)));
    calls.add(new Call("way(0, 1, 1), not so many", NONE, x -> x.way(0, 1, 1)));
    calls.add(new Call("told(7, 1, 1, 0), not told", NONE, x -> x.told(7, 1, 1, 0)));
    calls.add(new Call("write(8) over 300", FULL, x -> x.write(8, 0x3B3B3B3B3B3B3B3BL)));
    calls.add(new Call("write(1) over 300", FULL, x -> x.write(1, ';')));
    calls.add(new Call("write(9) over 300", BAD, x -> x.write(9, ';')));
    calls.add(new Call("lay() with a fault", NO, x -> x.lay()));
    String full = "a;" + Checks.times("1", 298);
    refuse("stands", () -> made("h0;g;", "a13#34;b1;c;", 2, full), calls);
  }

  private static void inATownThatBars() {
    List<Call> calls = new ArrayList<>();
    always(calls, 2);
    gated(calls, NO);
    calls.add(new Call("lay() with a fault", NO, x -> x.lay()));
    calls.add(new Call("keep() of three", FULL, x -> x.keep()));
    refuse("bars", () -> {
      WalkersSay x = made("h0;g;", "a!01;b1;", 2, "a1;b");
      x.keep();
      return x;
    }, calls);
  }

  private static void inATownThatIsFull() {
    List<Call> calls = new ArrayList<>();
    always(calls, 2);
    gated(calls, FULL);
    calls.add(new Call("keep() of three", FULL, x -> x.keep()));
    for (String text : List.of(Checks.CORNERS_21, Checks.ENDS_201)) {
      refuse("is full", () -> {
        WalkersSay x = made("h0;g;", text + "b1;", 2, "a1;b;");
        x.keep();
        return x;
      }, calls);
    }
  }

  private static void inATownThatBarsAndIsFull() {
    List<Call> calls = new ArrayList<>();
    always(calls, 2);
    gated(calls, NO);
    for (String text : List.of(Checks.CORNERS_21, Checks.ENDS_201)) {
      refuse("bars and is full", () -> made("h0;g;", text.replace(";", "!0!1!2!9a0;") + "b1;", 2, "a1;b;"), calls);
    }
  }

  private static void inANewObject() {
    List<Call> calls = new ArrayList<>();
    always(calls, 0);
    calls.add(new Call("back() of none", NO, x -> x.back()));
    calls.add(new Call("corner(0, 0)", BAD, x -> x.corner(0, 0)));
    calls.add(new Call("about(0, 0)", BAD, x -> x.about(0, 0)));
    calls.add(new Call("may(0, 0)", BAD, x -> x.may(0, 0)));
    calls.add(new Call("pairs(0)", NONE, x -> x.pairs(0)));
    calls.add(new Call("way(0, 0, -1)", BAD, x -> x.way(0, 0, -1)));
    calls.add(new Call("told(0, 0, 0, 0)", NONE, x -> x.told(0, 0, 0, 0)));
    calls.add(new Call("fault()", NONE, x -> x.fault()));
    calls.add(new Call("why()", NONE, x -> x.why()));
    refuse("is new", WalkersSay::new, calls);
  }

  // ---- the calls

  /** BAD whatever the town is: numbers that are none, ahead of NO, FULL and NONE. */
  private static void always(List<Call> calls, int walks) {
    int[] odd = {Integer.MIN_VALUE, -1, Integer.MAX_VALUE};
    for (int n : odd) {
      calls.add(new Call("write(" + n + ")", BAD, x -> x.write(n, 0)));
      calls.add(new Call("corner(" + n + ", 0)", BAD, x -> x.corner(n, 0)));
      calls.add(new Call("corner(0, " + n + ")", BAD, x -> x.corner(0, n)));
      calls.add(new Call("about(0, " + n + ")", BAD, x -> x.about(0, n)));
      calls.add(new Call("about(99, " + n + ")", BAD, x -> x.about(99, n)));
      calls.add(new Call("town(" + n + ")", BAD, x -> x.town(n)));
      calls.add(new Call("way(" + n + ", 0, -1)", BAD, x -> x.way(n, 0, -1)));
      calls.add(new Call("told(" + n + ", 0, 0, 0)", BAD, x -> x.told(n, 0, 0, 0)));
      calls.add(new Call("told(0, " + n + ", 0, 0)", BAD, x -> x.told(0, n, 0, 0)));
      calls.add(new Call("told(7, 0, 0, " + n + ")", BAD, x -> x.told(7, 0, 0, n)));
      calls.add(new Call("count(" + n + ")", BAD, x -> x.count(n)));
    }
    calls.add(new Call("write(0)", BAD, x -> x.write(0, 0)));
    calls.add(new Call("write(9)", BAD, x -> x.write(9, 0)));
    calls.add(new Call("doubt(" + (1 << walks) + ")", BAD, x -> x.doubt(1 << walks)));
    calls.add(new Call("doubt(-1)", BAD, x -> x.doubt(-1)));
    calls.add(new Call("corner(" + walks + ", 0)", BAD, x -> x.corner(walks, 0)));
    calls.add(new Call("about(0, 4)", BAD, x -> x.about(0, 4)));
    calls.add(new Call("town(4)", BAD, x -> x.town(4)));
    calls.add(new Call("pairs(-2)", BAD, x -> x.pairs(-2)));
    calls.add(new Call("way(8, 0, -1)", BAD, x -> x.way(8, 0, -1)));
    calls.add(new Call("way(0, 99, -2)", BAD, x -> x.way(0, 99, -2)));
    calls.add(new Call("told(8, 0, 0, 0)", BAD, x -> x.told(8, 0, 0, 0)));
    calls.add(new Call("told(7, 13, 0, 0)", BAD, x -> x.told(7, 13, 0, 0)));
    calls.add(new Call("told(7, 1, 6, 0)", BAD, x -> x.told(7, 1, 6, 0)));
    calls.add(new Call("told(7, 1, 17, 0)", BAD, x -> x.told(7, 1, 17, 0)));
    calls.add(new Call("told(7, 1, 1, 2)", BAD, x -> x.told(7, 1, 1, 2)));
    calls.add(new Call("count(5)", BAD, x -> x.count(5)));
  }

  /** NO, or FULL, ahead of a corner that is none and of NONE. */
  private static void gated(List<Call> calls, int due) {
    calls.add(new Call("corners()", due, x -> x.corners()));
    calls.add(new Call("corner(0, 0)", due, x -> x.corner(0, 0)));
    calls.add(new Call("corner(0, 99)", BAD, x -> x.corner(0, 99)));
    calls.add(new Call("corner(1, 0), DOUBTED", BAD, x -> x.corner(1, 0)));
    for (int n : new int[] {Integer.MIN_VALUE, -1, 0, 20, Integer.MAX_VALUE}) {
      for (int what = 0; what < 4; what++) {
        int w = what;
        calls.add(new Call("about(" + n + ", " + w + ")", due, x -> x.about(n, w)));
      }
      calls.add(new Call("may(" + n + ", 0)", due, x -> x.may(n, 0)));
      calls.add(new Call("may(0, " + n + ")", due, x -> x.may(0, n)));
      calls.add(new Call("may(" + n + ", " + n + ")", due, x -> x.may(n, n)));
      calls.add(new Call("way(7, " + n + ", 0)", due, x -> x.way(7, n, 0)));
      calls.add(new Call("way(0, " + n + ", -1)", due, x -> x.way(0, n, -1)));
    }
    for (int what = 0; what < 4; what++) {
      int w = what;
      calls.add(new Call("town(" + w + ")", due, x -> x.town(w)));
    }
    calls.add(new Call("pairs(-1)", due, x -> x.pairs(-1)));
    calls.add(new Call("pairs(999)", due, x -> x.pairs(999)));
    calls.add(new Call("smallest()", NO, x -> x.smallest()));
    calls.add(new Call("told(0, 0, 0, 0)", due, x -> x.told(0, 0, 0, 0)));
    calls.add(new Call("told(7, 1, 1, 1), not told", due, x -> x.told(7, 1, 1, 1)));
  }

  // ---- what may show a change: each row is asked of an object of its own

  private static final List<Call> PROBES = List.of(
      new Call("texts", 0, x -> mixed(x.count(0), x.fault(), x.write(1, ';'), x.fault(), x.wipe())),
      new Call("lay", 0, x -> mixed(x.lay(), x.count(1), x.count(2), x.corners(), x.doubt(0))),
      new Call("counts", 0, x -> mixed(x.count(1), x.count(2), x.count(3), x.count(4), x.doubt(0))),
      new Call("doubts", 0, x -> mixed(x.why(), x.fewest(), x.doubt(0), x.why(), x.corners())),
      new Call("corners", 0, x -> mixed(x.corners(), x.corner(0, 0), x.corner(0, 2), x.corner(2, 0), x.smallest())),
      new Call("about", 0, x -> mixed(x.about(0, 0), x.about(1, 1), x.about(2, 3), x.about(3, 2), x.about(4, 0))),
      new Call("town", 0, x -> mixed(x.town(0), x.town(1), x.town(2), x.town(3), x.pairs(-1))),
      new Call("may", 0, x -> mixed(x.may(0, 1), x.may(1, 2), x.may(2, 3), x.pairs(0), x.pairs(2))),
      new Call("way", 0, x -> mixed(x.way(0, 1, -1), x.way(0, 2, 1), x.way(2, 1, 0), x.way(0, 3, -1), x.way(0, 3, 2))),
      new Call("told", 0, x -> mixed(x.told(0, 1, 1, 0), x.told(0, 3, 0x134, 1), x.told(1, 0, 0, 0), x.told(2, 1, 0, 1), 0)),
      new Call("keep", 0, x -> mixed(x.keep(), x.keep(), x.keep(), x.back(), x.corners())),
      new Call("back", 0, x -> mixed(x.back(), x.count(3), x.corners(), x.about(0, 2), x.doubt(0))),
      new Call("back, back", 0, x -> mixed(x.back(), x.back(), x.back(), x.corners(), x.doubt(0))));

  private static int mixed(int a, int b, int c, int d, int e) {
    int sum = 0;
    for (int answer : new int[] {a, b, c, d, e}) sum = sum * 1_000_003 + answer;
    return sum;
  }

  private static void refuse(String town, Supplier<WalkersSay> maker, List<Call> calls) {
    for (Call probe : PROBES) {
      int before = probe.on.applyAsInt(maker.get());
      for (Call call : calls) {
        WalkersSay x = maker.get();
        t.due(call.name + " in a town that " + town, call.on.applyAsInt(x), call.due);
        t.due(call.name + " again", call.on.applyAsInt(x), call.due);
        t.holds("after " + call.name + " in a town that " + town + ": " + probe.name + " as before",
            probe.on.applyAsInt(x) == before);
      }
    }
    WalkersSay x = maker.get();
    for (Call call : calls) t.due(call.name + " behind others", call.on.applyAsInt(x), call.due);
    WalkersSay y = maker.get();
    for (Call probe : PROBES) t.due("all of them, " + probe.name, probe.on.applyAsInt(x), probe.on.applyAsInt(y));
  }
}
