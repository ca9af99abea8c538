import java.util.ArrayList;
import java.util.List;

/** Texts to try: walks through towns that there are, with or without lies, and walks at random. */
final class Towns {
  private long seed;

  Towns(long seed) { this.seed = seed * 0x9E3779B97F4A7C15L + 1; }

  int below(int n) {
    seed = seed * 6364136223846793005L + 1442695040888963407L;
    return (int) ((seed >>> 33) % n);
  }

  long anyLong() { return (long) below(1 << 30) << 40 ^ (long) below(1 << 30) << 20 ^ below(1 << 30); }

  String text(int kind, int longest) {
    switch (kind) {
      case 0: return walked(longest, 0);
      case 1: return walked(longest, 12);
      case 2: return random(longest);
      default: return spoilt(walked(longest, 30));
    }
  }

  /** Walks in a town made here; one token in so many is a lie (0: none). */
  private String walked(int longest, int lies) {
    int corners = 1 + below(7);
    List<int[]> ends = new ArrayList<>();
    int[] size = new int[corners];
    for (int c = 0; c < corners; c++) {
      size[c] = 1 + below(6);
      for (int i = 0; i < size[c]; i++) ends.add(new int[] {c, i});
    }
    if (ends.size() % 2 == 1) ends.add(new int[] {0, size[0]++});
    int[][] far = new int[corners][8];
    int[][] near = new int[corners][8];
    while (!ends.isEmpty()) {
      int[] a = ends.remove(below(ends.size())), b = ends.remove(below(ends.size()));
      far[a[0]][a[1]] = b[0];
      near[a[0]][a[1]] = b[1];
      far[b[0]][b[1]] = a[0];
      near[b[0]][b[1]] = a[1];
    }
    int things = 1 + below(Math.min(corners, 3));
    int[] firsts = new int[things];
    for (int t = 0; t < things; t++) firsts[t] = below(size[t]);
    StringBuilder text = new StringBuilder();
    int walks = 1 + below(6);
    for (int w = 0; w < walks && text.length() < longest; w++) {
      walkOne(text, 2 + below(12), lies, size, far, near, firsts);
    }
    return text.toString();
  }

  private void walkOne(StringBuilder text, int tokens, int lies, int[] size, int[][] far, int[][] near, int[] firsts) {
    int corner = below(firsts.length), end = firsts[corner];
    List<int[]> been = new ArrayList<>();
    been.add(new int[] {corner, end});
    text.append((char) ('a' + corner));
    for (int i = 0; i < tokens; i++) {
      if (lies > 0 && below(lies) == 0) {
        text.append(token(been.size() - 1));
        char last = text.charAt(text.length() - 1);
        if (text.charAt(text.length() - 2) >= 'a' || last < '0' || last > '5') continue;
        if ("#=!".indexOf(text.charAt(text.length() - 2)) >= 0) continue;
        been.add(been.get(been.size() - 1));
        continue;
      }
      int what = below(10);
      int k = below(6);
      if (what < 6 && (k == 0 ? below(3) == 0 : k % size[corner] != 0)) {
        int out = (end + k) % size[corner];
        text.append((char) ('0' + k));
        int there = far[corner][out];
        end = near[corner][out];
        corner = there;
        been.add(new int[] {corner, end});
      } else if (what == 6 && size[corner] <= 6) {
        text.append('#').append(size[corner]);
      } else if (what == 7 && corner < firsts.length) {
        int offset = Math.floorMod(end - firsts[corner], size[corner]);
        if (offset < 6) text.append((char) ('a' + corner)).append(offset);
      } else if (what > 7) {
        int j = below(Math.min(10, been.size()));
        if (been.get(j)[0] != corner) text.append('!').append(j);
        else if (been.get(j)[1] == end) text.append('=').append(j);
      }
    }
    text.append(';');
  }

  private String token(int taken) {
    int kind = below(10);
    if (kind < 5) return String.valueOf(below(6));
    if (kind == 5) return "#" + (1 + below(6));
    if (kind == 6) return "" + (char) ('a' + below(8)) + below(6);
    return (kind == 7 ? "=" : "!") + below(Math.min(10, taken + 1));
  }

  private String random(int longest) {
    StringBuilder text = new StringBuilder();
    int walks = 1 + below(9);
    for (int w = 0; w < walks && text.length() < longest; w++) {
      text.append((char) ('a' + below(3)));
      int taken = 0, tokens = below(9);
      for (int i = 0; i < tokens; i++) {
        String token = token(taken);
        if (token.length() == 1) taken++;
        text.append(token);
      }
      text.append(';');
    }
    return text.toString();
  }

  /** Few tokens, so that few ends are told. */
  String small() {
    StringBuilder text = new StringBuilder();
    int walks = 1 + below(3);
    for (int w = 0; w < walks; w++) {
      text.append((char) ('a' + below(2)));
      int taken = 0, tokens = below(4);
      for (int i = 0; i < tokens; i++) {
        String token = below(2) == 0 ? String.valueOf(below(4)) : token(taken);
        if (token.length() == 1) taken++;
        text.append(token);
      }
      text.append(';');
    }
    return text.toString();
  }

  private String spoilt(String text) {
    StringBuilder s = new StringBuilder(text);
    int times = 1 + below(2);
    for (int i = 0; i < times && s.length() > 0; i++) {
      int at = below(s.length());
      switch (below(3)) {
        case 0: s.deleteCharAt(at); break;
        case 1: s.insert(at, "0123456789abhi#=!; ".charAt(below(19))); break;
        default: s.setCharAt(at, below(4) == 0 ? (char) below(256) : "0123456789abhi#=!; ".charAt(below(19))); break;
      }
    }
    return s.toString();
  }
}
