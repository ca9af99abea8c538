import java.util.ArrayDeque;
import java.util.ArrayList;
import java.util.Arrays;
import java.util.HashMap;
import java.util.HashSet;
import java.util.LinkedHashMap;
import java.util.List;
import java.util.Map;
import java.util.Set;
import java.util.TreeSet;

/**
 * The document once more, as slowly and as plainly as can be: every token tells ends of its own,
 * and passes over all that is told make them one until a pass changes nothing.
 */
final class Oracle {
  static final int BAD = -1, NO = -2, FULL = -3, NONE = -4;
  /** What smallest answers where the plain search would take too long. */
  static final int UNSURE = Integer.MIN_VALUE;

  private String text = "";
  private String laid = "";
  private int doubted = 0;
  private final List<String> keptTexts = new ArrayList<>();
  private final List<Integer> keptDoubts = new ArrayList<>();
  private Facts facts;

  /** What a set of walks tells, with the ends made one. */
  private static final class Facts {
    int ends = 0;
    final List<int[]> on = new ArrayList<>();
    final List<int[]> lane = new ArrayList<>();
    final List<int[]> same = new ArrayList<>();
    final List<int[]> turns = new ArrayList<>();
    final List<int[]> rounds = new ArrayList<>();
    final List<int[]> aparts = new ArrayList<>();
    final Map<Integer, Integer> firsts = new LinkedHashMap<>();
    final Map<Integer, List<Integer>> visits = new LinkedHashMap<>();
    int[] name = new int[0];

    int fresh() { return ends++; }

    int steps(int from, int k) {
      int at = from;
      for (int i = 0; i < k; i++) {
        int next = fresh();
        on.add(new int[] {at, next});
        at = next;
      }
      return at;
    }

    int first(char thing) { return firsts.computeIfAbsent(thing - 'a', t -> fresh()); }

    void tell(int walk, String tokens) {
      List<Integer> been = new ArrayList<>();
      visits.put(walk, been);
      int came = first(tokens.charAt(0));
      been.add(came);
      for (int at = 1; at < tokens.length(); at++) {
        char c = tokens.charAt(at);
        if (c >= '0' && c <= '5') {
          int out = steps(came, c - '0');
          if (c != '0') turns.add(new int[] {came, out});
          int there = fresh();
          lane.add(new int[] {out, there});
          came = there;
          been.add(came);
          continue;
        }
        int figure = tokens.charAt(++at) - '0';
        if (c == '#') {
          same.add(new int[] {steps(came, figure), came});
          rounds.add(new int[] {came, figure});
        } else if (c == '=') {
          same.add(new int[] {been.get(figure), came});
        } else if (c == '!') {
          aparts.add(new int[] {been.get(figure), came});
        } else {
          same.add(new int[] {steps(first(c), figure), came});
        }
      }
    }

    private boolean rename(int a, int b) {
      int x = name[a], y = name[b];
      if (x == y) return false;
      for (int i = 0; i < ends; i++) if (name[i] == y) name[i] = x;
      return true;
    }

    private boolean meet(Map<Integer, Integer> known, int key, int end) {
      Integer other = known.putIfAbsent(name[key], end);
      return other != null && rename(other, end);
    }

    void close() {
      name = new int[ends];
      for (int i = 0; i < ends; i++) name[i] = i;
      for (int[] pair : same) rename(pair[0], pair[1]);
      closeOn();
    }

    private void closeOn() {
      boolean changed = true;
      while (changed) {
        changed = false;
        Map<Integer, Integer> ahead = new HashMap<>(), behind = new HashMap<>(), across = new HashMap<>();
        for (int[] p : on) changed |= meet(ahead, p[0], p[1]) | meet(behind, p[1], p[0]);
        for (int[] p : lane) changed |= meet(across, p[0], p[1]) | meet(across, p[1], p[0]);
      }
    }

    int next(int end) {
      for (int[] p : on) if (name[p[0]] == name[end]) return name[p[1]];
      return -1;
    }

    int mate(int end) {
      for (int[] p : lane) {
        if (name[p[0]] == name[end]) return name[p[1]];
        if (name[p[1]] == name[end]) return name[p[0]];
      }
      return -1;
    }

    boolean atOne(int a, int b) { return cornerNames()[a] == cornerNames()[b]; }

    private int[] cornerNames() {
      int[] corner = name.clone();
      boolean changed = true;
      while (changed) {
        changed = false;
        for (int[] p : on) {
          int x = Math.min(corner[p[0]], corner[p[1]]), y = Math.max(corner[p[0]], corner[p[1]]);
          if (x == y) continue;
          for (int i = 0; i < ends; i++) if (corner[i] == y) corner[i] = x;
          changed = true;
        }
      }
      return corner;
    }

    boolean bars() {
      for (int[] p : lane) if (name[p[0]] == name[p[1]]) return true;
      for (int[] p : turns) if (name[p[0]] == name[p[1]]) return true;
      for (int[] p : rounds) {
        int at = name[p[0]], steps = 0;
        do { at = next(at); steps++; } while (at != name[p[0]]);
        if (steps != p[1]) return true;
      }
      int[] corner = cornerNames();
      for (int[] p : aparts) if (corner[p[0]] == corner[p[1]]) return true;
      Set<Integer> taken = new HashSet<>();
      for (int end : firsts.values()) if (!taken.add(corner[end])) return true;
      return false;
    }

    /** The same facts with some ends more made one. */
    boolean barsWith(int[] names, int a, int b) {
      name = names.clone();
      rename(a, b);
      closeOn();
      return bars();
    }
  }

  /** The numbered town. */
  private final class Numbered {
    final List<List<Integer>> corners = new ArrayList<>();
    final Map<Integer, Integer> cornerOf = new HashMap<>();
    final int[] names = facts.name.clone();
    final Map<Integer, Integer> next = new HashMap<>(), mate = new HashMap<>();
    int ends;

    Numbered() {
      int[] corner = facts.cornerNames();
      Map<Integer, Integer> number = new HashMap<>();
      for (List<Integer> been : facts.visits.values()) {
        for (int end : been) {
          if (number.containsKey(corner[end])) continue;
          number.put(corner[end], corners.size());
          corners.add(new ArrayList<>());
        }
      }
      for (int end = 0; end < facts.ends; end++) {
        if (names[end] != end) continue;
        ends++;
        cornerOf.put(end, number.get(corner[end]));
        corners.get(number.get(corner[end])).add(end);
        if (facts.next(end) >= 0) next.put(end, facts.next(end));
        if (facts.mate(end) >= 0) mate.put(end, facts.mate(end));
      }
    }

    int standing() { return corners.size() > 20 || ends > 200 ? FULL : 0; }
  }

  private Numbered numbered;

  private static List<String> walksOf(String text) {
    List<String> walks = new ArrayList<>();
    int from = 0;
    for (int at = 0; at < text.length(); at++) {
      if (text.charAt(at) != ';') continue;
      walks.add(text.substring(from, at));
      from = at + 1;
    }
    return walks;
  }

  private static Facts tell(List<String> walks, int set) {
    Facts facts = new Facts();
    for (int w = 0; w < walks.size(); w++) if ((set >> w & 1) != 0) facts.tell(w, walks.get(w));
    facts.close();
    return facts;
  }

  private static int turnings(String walk) {
    int n = 0;
    for (int at = 1; at < walk.length(); at++) {
      if ("012345".indexOf(walk.charAt(at)) >= 0) n++; else at++;
    }
    return n;
  }

  private int all() { return (1 << walksOf(laid).size()) - 1; }

  private int standing() {
    if (facts == null) {
      facts = tell(walksOf(laid), all() & ~doubted);
      numbered = facts.bars() ? null : new Numbered();
    }
    return numbered == null ? NO : numbered.standing();
  }

  private void changed() { facts = null; numbered = null; }

  int write(int n, long v) {
    if (n < 1 || n > 8) return BAD;
    if (text.length() + n > 300) return FULL;
    for (int i = n - 1; i >= 0; i--) text += (char) (v >>> 8 * i & 255);
    return text.length();
  }

  int wipe() {
    int was = text.length();
    text = "";
    return was;
  }

  int fault() {
    int at = 0, walks = 0;
    while (at < text.length()) {
      if (walks == 9 || "abcdefgh".indexOf(text.charAt(at)) < 0) return at;
      walks++;
      at++;
      int taken = 0;
      while (true) {
        if (at >= text.length()) return text.length();
        char c = text.charAt(at);
        if (c == ';') break;
        String second;
        if ("012345".indexOf(c) >= 0) { taken++; at++; continue; }
        else if ("abcdefgh".indexOf(c) >= 0) second = "012345";
        else if (c == '#') second = "123456";
        else if (c == '=' || c == '!') second = "0123456789".substring(0, Math.min(10, taken + 1));
        else return at;
        at++;
        if (at >= text.length()) return text.length();
        if (second.indexOf(text.charAt(at)) < 0) return at;
        at++;
      }
      at++;
    }
    return NONE;
  }

  int lay() {
    if (fault() != NONE) return NO;
    laid = text;
    doubted = 0;
    changed();
    return walksOf(laid).size();
  }

  int doubt(int walks) {
    if ((walks & ~all()) != 0) return BAD;
    int was = doubted;
    doubted = walks;
    changed();
    return was;
  }

  int why() {
    List<String> walks = walksOf(laid);
    for (int w = 0; w < walks.size(); w++) {
      if (tell(walks, (2 << w) - 1 & ~doubted).bars()) return w;
    }
    return NONE;
  }

  int fewest() {
    List<String> walks = walksOf(laid);
    int best = all();
    for (int set = all(); set >= 0; set--) {
      if (Integer.bitCount(set) > Integer.bitCount(best)) continue;
      if (!tell(walks, all() & ~set).bars()) best = set;
    }
    return best;
  }

  int corners() { return standing() != 0 ? standing() : numbered.corners.size(); }

  int corner(int walk, int i) {
    List<String> walks = walksOf(laid);
    if (walk < 0 || walk >= walks.size() || (doubted >> walk & 1) != 0) return BAD;
    if (i < 0 || i > turnings(walks.get(walk))) return BAD;
    if (standing() != 0) return standing();
    return numbered.cornerOf.get(numbered.names[facts.visits.get(walk).get(i)]);
  }

  private boolean isCorner(int corner) { return corner >= 0 && corner < numbered.corners.size(); }

  int about(int corner, int what) {
    if (what < 0 || what > 3) return BAD;
    if (standing() != 0) return standing();
    if (!isCorner(corner)) return BAD;
    List<Integer> ends = numbered.corners.get(corner);
    if (what == 0) return ends.size();
    if (what == 1) return numbered.next.keySet().containsAll(ends) ? 1 : 0;
    if (what == 3) return (int) ends.stream().filter(e -> !numbered.mate.containsKey(e)).count();
    for (Map.Entry<Integer, Integer> first : facts.firsts.entrySet()) {
      if (ends.contains(numbered.names[first.getValue()])) return first.getKey();
    }
    return NONE;
  }

  int town(int what) {
    if (what < 0 || what > 3) return BAD;
    if (standing() != 0) return standing();
    List<Set<Integer>> parts = parts();
    if (what == 0) return numbered.mate.size() / 2;
    if (what == 1) return numbered.ends - numbered.mate.size();
    if (what == 3) return parts.size();
    for (Set<Integer> part : parts) if (!isFlat(part)) return 0;
    return 1;
  }

  private List<Set<Integer>> parts() {
    List<Set<Integer>> parts = new ArrayList<>();
    Set<Integer> seen = new HashSet<>();
    for (int c = 0; c < numbered.corners.size(); c++) {
      if (seen.contains(c)) continue;
      Set<Integer> part = new TreeSet<>();
      ArrayDeque<Integer> open = new ArrayDeque<>(List.of(c));
      while (!open.isEmpty()) {
        int at = open.pop();
        if (!part.add(at)) continue;
        for (int end : numbered.corners.get(at)) {
          if (numbered.mate.containsKey(end)) open.push(numbered.cornerOf.get(numbered.mate.get(end)));
        }
      }
      seen.addAll(part);
      parts.add(part);
    }
    return parts;
  }

  /** Ends in turning order, from the one that is next on from none (or any). */
  private List<Integer> inOrder(int corner) {
    List<Integer> ends = numbered.corners.get(corner), order = new ArrayList<>();
    int at = ends.get(0);
    for (int end : ends) if (!numbered.next.containsValue(end)) at = end;
    while (order.size() < ends.size()) {
      order.add(at);
      if (numbered.next.containsKey(at)) at = numbered.next.get(at);
    }
    return order;
  }

  private boolean isFlat(Set<Integer> part) {
    Map<Integer, Integer> turn = new HashMap<>();
    for (int corner : part) {
      List<Integer> order = inOrder(corner);
      order.removeIf(e -> !numbered.mate.containsKey(e));
      for (int i = 0; i < order.size(); i++) turn.put(order.get(i), order.get((i + 1) % order.size()));
    }
    if (turn.isEmpty()) return true;
    Set<Integer> left = new HashSet<>(turn.keySet());
    int faces = 0;
    while (!left.isEmpty()) {
      int from = left.iterator().next(), at = from;
      do {
        left.remove(at);
        at = turn.get(numbered.mate.get(at));
      } while (at != from);
      faces++;
    }
    return part.size() - turn.size() / 2 + faces == 2;
  }

  int may(int a, int b) {
    if (standing() != 0) return standing();
    if (!isCorner(a) || !isCorner(b)) return BAD;
    if (a == b) return 2;
    int[] names = numbered.names;
    try {
      for (int e : numbered.corners.get(a)) {
        for (int f : numbered.corners.get(b)) if (!facts.barsWith(names, e, f)) return 1;
      }
      return 0;
    } finally {
      facts.name = names;
    }
  }

  int pairs(int i) {
    if (i < -1) return BAD;
    if (standing() != 0) return standing();
    List<Integer> found = new ArrayList<>();
    for (int a = 0; a < numbered.corners.size(); a++) {
      for (int b = a + 1; b < numbered.corners.size(); b++) if (may(a, b) == 1) found.add(100 * a + b);
    }
    if (i == -1) return found.size();
    return i < found.size() ? found.get(i) : NONE;
  }

  int smallest() {
    if (standing() == NO) return NO;
    if (numbered.corners.size() > 4 || numbered.ends > 24) return NO;
    int[] names = numbered.names;
    Set<String> seen = new HashSet<>();
    int best = fewestFrom(names, seen, numbered.corners.size());
    facts.name = names;
    return seen.size() > 3000 ? UNSURE : best;
  }

  /** Every two ends, those of one corner too. */
  private int fewestFrom(int[] names, Set<String> seen, int best) {
    if (seen.size() > 3000) return best;
    facts.name = names;
    if (!seen.add(pattern(names))) return best;
    Set<Integer> distinct = new HashSet<>();
    for (int corner : facts.cornerNames()) distinct.add(corner);
    int found = Math.min(best, distinct.size());
    for (int e = 0; e < facts.ends; e++) {
      for (int f = 0; f < e; f++) {
        if (names[e] != e || names[f] != f) continue;
        if (!facts.barsWith(names, e, f)) found = fewestFrom(facts.name.clone(), seen, found);
      }
    }
    return found;
  }

  private static String pattern(int[] names) {
    Map<Integer, Integer> first = new HashMap<>();
    StringBuilder s = new StringBuilder();
    for (int name : names) {
      first.putIfAbsent(name, first.size());
      s.append((char) (int) first.get(name));
    }
    return s.toString();
  }

  private int turned(int came, int k) {
    int out = came;
    for (int i = 0; i < k; i++) {
      if (!numbered.next.containsKey(out)) return -1;
      out = numbered.next.get(out);
    }
    if (k > 0 && out == came) return -1;
    return numbered.mate.getOrDefault(out, -1);
  }

  int way(int thing, int corner, int i) {
    if (thing < 0 || thing > 7 || i < -1) return BAD;
    if (standing() != 0) return standing();
    if (!isCorner(corner)) return BAD;
    if (!facts.firsts.containsKey(thing)) return NONE;
    Map<Integer, Integer> far = distancesTo(corner);
    int at = numbered.names[facts.firsts.get(thing)];
    if (!far.containsKey(at)) return NONE;
    if (i == -1) return far.get(at);
    if (i >= far.get(at)) return NONE;
    for (int step = 0; ; step++) {
      for (int k = 1; ; k++) {
        int there = turned(at, k);
        if (there < 0 || !far.containsKey(there) || far.get(there) != far.get(at) - 1) continue;
        if (step == i) return k;
        at = there;
        break;
      }
    }
  }

  private Map<Integer, Integer> distancesTo(int corner) {
    Map<Integer, Integer> far = new HashMap<>();
    for (int end : numbered.corners.get(corner)) far.put(end, 0);
    boolean changed = true;
    while (changed) {
      changed = false;
      for (int end : numbered.cornerOf.keySet()) {
        for (int k = 1; k <= 5; k++) {
          int there = turned(end, k);
          if (there < 0 || !far.containsKey(there)) continue;
          if (far.getOrDefault(end, 1 << 20) <= far.get(there) + 1) continue;
          far.put(end, far.get(there) + 1);
          changed = true;
        }
      }
    }
    return far;
  }

  int told(int thing, int n, long v, int what) {
    if (thing < 0 || thing > 7 || n < 0 || n > 12 || what < 0 || what > 1) return BAD;
    for (int i = 0; i < 16; i++) if ((v >>> 4 * i & 15) > (i < n ? 5 : 0)) return BAD;
    if (standing() != 0) return standing();
    if (!facts.firsts.containsKey(thing)) return NONE;
    int at = numbered.names[facts.firsts.get(thing)], gone = 0;
    while (gone < n) {
      int there = turned(at, (int) (v >>> 4 * (n - 1 - gone) & 15));
      if (there < 0) break;
      at = there;
      gone++;
    }
    return what == 0 ? gone : numbered.cornerOf.get(at);
  }

  int keep() {
    if (keptTexts.size() == 2) return FULL;
    keptTexts.add(laid);
    keptDoubts.add(doubted);
    return keptTexts.size();
  }

  int back() {
    if (keptTexts.isEmpty()) return NO;
    laid = keptTexts.remove(keptTexts.size() - 1);
    doubted = keptDoubts.remove(keptDoubts.size() - 1);
    changed();
    return keptTexts.size();
  }

  int count(int what) {
    switch (what) {
      case 0: return text.length();
      case 1: return walksOf(laid).size();
      case 2: return walksOf(laid).stream().mapToInt(Oracle::turnings).sum();
      case 3: return Integer.bitCount(doubted);
      case 4: return keptTexts.size();
      default: return BAD;
    }
  }
}
