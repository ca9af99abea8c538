import java.util.ArrayList;
import java.util.Arrays;
import java.util.HashMap;
import java.util.HashSet;
import java.util.List;
import java.util.Map;
import java.util.Set;
import java.util.TreeSet;

/**
 * A town is made, it is walked in, and what the walkers truly say is laid: whatever the class says of
 * the town must then be so in that town. This asks no second reading of the document, only the town.
 */
public final class TrueTownTests {
  private static final Checks t = new Checks();
  private static final int[] seen = new int[6];
  private static final int KNOWN = 0, FLAT = 1, BENT = 2, SHARED = 3, WAYS = 4, SMALL = 5;

  public static void main(String[] args) {
    int runs = args.length > 0 ? Integer.parseInt(args[0]) : 3000;
    for (int r = 0; r < runs; r++) new TrueTownTests(r).all();
    for (int r = 0; r < runs; r++) whatWasSaid(new Towns(9_000_000 + r));
    System.out.println("towns known whole " + seen[KNOWN] + " (flat " + seen[FLAT] + ", not " + seen[BENT]
        + "), corners told twice " + seen[SHARED] + ", ways " + seen[WAYS] + ", smallest " + seen[SMALL]);
    for (int kind = 0; kind < seen.length; kind++) t.holds("kind " + kind + " came, if there were many", seen[kind] > 0 || runs < 3000);
    t.end("TrueTownTests");
  }

  private final Towns chance;
  /** Ends are numbers; those of a corner stand together, clockwise. */
  private final int[] from, size, home, mate;
  private final int things;
  private final int[] first;
  private final StringBuilder text = new StringBuilder();
  /** For each walk the ends by which it came, and its turnings up to the first other token. */
  private final List<List<Integer>> been = new ArrayList<>();
  private final List<String> plain = new ArrayList<>();
  private final Set<Integer> taken = new HashSet<>();

  private TrueTownTests(int seed) {
    chance = new Towns(7_000_000 + seed);
    int corners = 1 + chance.below(6);
    from = new int[corners + 1];
    size = new int[corners];
    for (int c = 0; c < corners; c++) {
      size[c] = 1 + chance.below(6);
      from[c + 1] = from[c] + size[c];
    }
    if (from[corners] % 2 == 1) {
      size[corners - 1] += size[corners - 1] < 6 ? 1 : -1;
      from[corners] = from[corners - 1] + size[corners - 1];
    }
    home = new int[from[corners]];
    mate = new int[from[corners]];
    for (int c = 0; c < corners; c++) Arrays.fill(home, from[c], from[c + 1], c);
    List<Integer> free = new ArrayList<>();
    for (int end = 0; end < mate.length; end++) free.add(end);
    while (!free.isEmpty()) {
      int a = free.remove(0), b = free.remove(chance.below(3) == 0 ? chance.below(free.size()) : 0);
      mate[a] = b;
      mate[b] = a;
    }
    things = 1 + chance.below(Math.min(corners, 8));
    first = new int[things];
    for (int thing = 0; thing < things; thing++) first[thing] = from[thing] + chance.below(size[thing]);
    int walks = 1 + chance.below(9), talk = chance.below(4);
    for (int w = 0; w < walks && text.length() < 240; w++) walk(2 + chance.below(24), talk);
  }

  private int on(int end, int k) {
    int c = home[end];
    return from[c] + (end - from[c] + k) % size[c];
  }

  /** The more talk, the more is said besides the turnings. */
  private void walk(int tokens, int talk) {
    int thing = chance.below(things), came = first[thing];
    List<Integer> ends = new ArrayList<>(List.of(came));
    StringBuilder turnings = new StringBuilder();
    boolean only = true;
    text.append((char) ('a' + thing));
    for (int i = 0; i < tokens && text.length() < 296; i++) {
      int k = chance.below(6);
      if (chance.below(4) < talk) {
        int before = text.length();
        say(came, ends);
        only &= text.length() == before;
      } else if (k == 0 ? chance.below(4) == 0 : k % size[home[came]] != 0) {
        taken.add(on(came, k));
        taken.add(mate[on(came, k)]);
        came = mate[on(came, k)];
        ends.add(came);
        text.append(k);
        if (only && turnings.length() < 12) turnings.append(k);
      }
    }
    text.append(';');
    been.add(ends);
    plain.add(turnings.toString());
  }

  private void say(int came, List<Integer> ends) {
    int c = home[came], j = chance.below(Math.min(10, ends.size()));
    switch (chance.below(3)) {
      case 0:
        text.append('#').append(size[c]);
        break;
      case 1:
        if (c < things) text.append((char) ('a' + c)).append(Math.floorMod(came - first[c], size[c]));
        break;
      default:
        if (home[ends.get(j)] != c) text.append('!').append(j);
        else if (ends.get(j) == came) text.append('=').append(j);
    }
  }

  private WalkersSay town;
  private int calls = 0;

  /** An object is asked 512 times at most, those that write the text among them. */
  private WalkersSay x() {
    if (calls % 450 == 0) town = t.laid(text.toString());
    calls++;
    return town;
  }

  /** For each number the corner that it is, and ends of it by which a walk came. */
  private final Map<Integer, Integer> truly = new HashMap<>();
  private final Map<Integer, Set<Integer>> cameBy = new HashMap<>();

  private void all() {
    t.due("why of true walks: " + text, x().why(), Checks.NONE);
    t.due("fewest of true walks: " + text, x().fewest(), 0);
    if (x().corners() == Checks.FULL) return;
    numbers();
    corners();
    lanes();
    unions();
    for (int thing = 0; thing < things; thing++) ways(thing);
    for (int w = 0; w < been.size(); w++) toldAgain(w);
  }

  private void is(String what, boolean so) { t.holds(what + " in " + text, so); }

  private void numbers() {
    int next = 0;
    for (int w = 0; w < been.size(); w++) {
      for (int i = 0; i < been.get(w).size(); i++) {
        int number = x().corner(w, i), end = been.get(w).get(i);
        is("corner " + w + ", " + i + " is no later one", number >= 0 && number <= next);
        if (number == next) next++;
        is("corner " + number + " is one corner", truly.computeIfAbsent(number, n -> home[end]) == home[end]);
        cameBy.computeIfAbsent(number, n -> new TreeSet<>()).add(end);
      }
      t.due("corner beyond walk " + w + " of " + text, x().corner(w, been.get(w).size()), Checks.BAD);
    }
    t.due("corners of " + text, x().corners(), next);
  }

  private void corners() {
    for (int number : truly.keySet()) {
      int c = truly.get(number);
      int known = x().about(number, 0);
      is("a corner that goes round goes round so", x().about(number, 1) == 0 || known % size[c] == 0);
      int thing = x().about(number, 2);
      is("thing " + thing + " is at its corner", thing == Checks.NONE || thing == c);
      is("no more open than known", x().about(number, 3) >= 0 && x().about(number, 3) <= known);
    }
    // A number that has the first end of a thing is that thing's.
    for (int w = 0; w < been.size(); w++) {
      t.due("thing of walk " + w + " of " + text, x().about(x().corner(w, 0), 2), home[been.get(w).get(0)]);
    }
  }

  /** Where each corner has one number and all its lanes are known, the town is known as it is. */
  private boolean isKnownWhole() {
    if (new HashSet<>(truly.values()).size() != truly.size()) return false;
    for (int number : truly.keySet()) {
      if (x().about(number, 1) != 1 || x().about(number, 0) != size[truly.get(number)]) return false;
    }
    return true;
  }

  private void lanes() {
    is("no fewer lanes than were taken", x().town(0) >= taken.size() / 2);
    is("no more parts than corners", x().town(3) <= x().corners());
    if (!isKnownWhole()) return;
    seen[KNOWN]++;
    t.due("lanes of " + text, x().town(0), taken.size() / 2);
    int ends = 0;
    for (int number : truly.keySet()) {
      int open = 0;
      int c = truly.get(number);
      for (int end = from[c]; end < from[c + 1]; end++) if (!taken.contains(end)) open++;
      t.due("open at " + number + " of " + text, x().about(number, 3), open);
      ends += open;
    }
    t.due("open ones of " + text, x().town(1), ends);
    int flat = isFlat() ? 1 : 0;
    seen[flat == 1 ? FLAT : BENT]++;
    t.due("flat of " + text, x().town(2), flat);
  }

  /** By the lanes taken alone, part by part. */
  private boolean isFlat() {
    Set<Integer> left = new TreeSet<>(truly.values());
    int parts = 0;
    boolean flat = true;
    while (!left.isEmpty()) {
      Set<Integer> part = partOf(left.iterator().next());
      left.removeAll(part);
      parts++;
      Set<Integer> ends = new TreeSet<>();
      for (int end : taken) if (part.contains(home[end])) ends.add(end);
      if (!ends.isEmpty() && part.size() - ends.size() / 2 + faces(ends) != 2) flat = false;
    }
    t.due("parts of " + text, x().town(3), parts);
    return flat;
  }

  private Set<Integer> partOf(int corner) {
    Set<Integer> part = new TreeSet<>(Set.of(corner));
    for (int before = 0; before < part.size();) {
      before = part.size();
      for (int end : taken) if (part.contains(home[end])) part.add(home[mate[end]]);
    }
    return part;
  }

  private int faces(Set<Integer> ends) {
    Set<Integer> left = new TreeSet<>(ends);
    int faces = 0;
    for (; !left.isEmpty(); faces++) {
      int at = left.iterator().next();
      while (left.remove(at)) {
        at = mate[at];
        do at = on(at, 1); while (!ends.contains(at));
      }
    }
    return faces;
  }

  /** Two numbers of one corner to which walks came by the same end may be one: they are. */
  private void unions() {
    List<Integer> numbers = new ArrayList<>(truly.keySet());
    Map<Integer, Integer> group = new HashMap<>();
    for (int number : numbers) group.put(number, number);
    for (int a : numbers) {
      for (int b : numbers) {
        Set<Integer> both = new TreeSet<>(cameBy.get(a));
        both.retainAll(cameBy.get(b));
        if (a >= b || both.isEmpty()) continue;
        seen[SHARED]++;
        t.due("may(" + a + ", " + b + ") of " + text, x().may(a, b), 1);
        int lost = group.get(b), won = group.get(a);
        for (int number : numbers) if (group.get(number) == lost) group.put(number, won);
      }
    }
    if (x().smallest() < 0) return;
    seen[SMALL]++;
    is("smallest is no larger than the town", x().smallest() >= 1 && x().smallest() <= new HashSet<>(group.values()).size());
    Set<Integer> atThings = new HashSet<>();
    for (int number : numbers) if (x().about(number, 2) >= 0) atThings.add(number);
    is("smallest keeps the things apart", x().smallest() >= atThings.size());
  }

  private void ways(int thing) {
    for (int number : truly.keySet()) {
      int turnings = x().way(thing, number, -1);
      if (turnings < 0) continue;
      seen[WAYS]++;
      int came = first[thing];
      long v = 0;
      for (int i = 0; i < turnings; i++) {
        int k = x().way(thing, number, i);
        is("turning " + k, k >= 1 && k <= 5);
        came = mate[on(came, k)];
        v = v << 4 | k;
      }
      t.due("a turning beyond the way in " + text, x().way(thing, number, turnings), Checks.NONE);
      t.due("where way(" + thing + ", " + number + ") leads in " + text, home[came], truly.get(number));
      if (turnings > 12) continue;
      t.due("told by way of " + text, x().told(thing, turnings, v, 0), turnings);
      t.due("told to " + number + " of " + text, x().told(thing, turnings, v, 1), number);
    }
  }

  /** A walk that was walked can be told again, and no way to a corner of it is longer. */
  private void toldAgain(int w) {
    int thing = home[been.get(w).get(0)];
    long v = 0;
    boolean back = false;
    for (int n = 0; n <= plain.get(w).length(); n++) {
      if (n > 0) v = v << 4 | plain.get(w).charAt(n - 1) - '0';
      if (n > 0) back |= plain.get(w).charAt(n - 1) == '0';
      t.due("told " + n + " of walk " + w + " of " + text, x().told(thing, n, v, 0), n);
      t.due("told corner " + n + " of walk " + w + " of " + text, x().told(thing, n, v, 1), x().corner(w, n));
      if (!back) is("way is no longer", x().way(thing, x().corner(w, n), -1) >= 0 && x().way(thing, x().corner(w, n), -1) <= n);
    }
  }

  /** Walks with lies: without the fewest doubts, what the others say is so in the town. */
  private static void whatWasSaid(Towns chance) {
    String text = chance.text(chance.below(4), 200);
    WalkersSay x = Checks.written(text);
    if (x.lay() < 0) return;
    int doubts = x.fewest();
    is(text, "it bars if something must be doubted", (x.why() == Checks.NONE) == (doubts == 0));
    t.due("doubt of " + text, x.doubt(doubts), 0);
    t.due("why without the fewest of " + text, x.why(), Checks.NONE);
    if (x.corners() == Checks.FULL) return;
    int walk = 0;
    for (String tokens : text.split(";")) {
      if ((doubts >> walk & 1) == 0) said(x, text, walk, tokens);
      else t.due("a doubted walk of " + text, x.corner(walk, 0), Checks.BAD);
      walk++;
    }
  }

  private static void is(String text, String what, boolean so) { t.holds(what + " in " + text, so); }

  private static void said(WalkersSay x, String text, int walk, String tokens) {
    if (tokens.isEmpty()) return;
    int gone = 0;
    is(text, "the first thing", x.about(x.corner(walk, 0), 2) == tokens.charAt(0) - 'a');
    for (int at = 1; at < tokens.length(); at++) {
      char c = tokens.charAt(at);
      int here = x.corner(walk, gone);
      if (c >= '0' && c <= '5') {
        gone++;
        is(text, "so many lanes and one", x.about(here, 0) > c - '0' || x.about(here, 1) == 1);
        continue;
      }
      at++;
      int figure = tokens.charAt(at) - '0';
      if (c == '#') is(text, "so many lanes", x.about(here, 0) == figure && x.about(here, 1) == 1);
      else if (c == '=') is(text, "the same corner", x.corner(walk, figure) == here && x.may(here, here) == 2);
      else if (c == '!') is(text, "another corner", x.corner(walk, figure) != here && x.may(here, x.corner(walk, figure)) == 0);
      else is(text, "the thing", x.about(here, 2) == c - 'a');
    }
  }
}
