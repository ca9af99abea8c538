/** Each sentence of the document that names a boundary: just below it, at it, and just beyond it. */
public final class BoundaryTests {
  private static final int BAD = Checks.BAD, NO = Checks.NO, FULL = Checks.FULL, NONE = Checks.NONE;
  private static final Checks t = new Checks();

  public static void main(String[] args) {
    bytesOfWrite();
    threeHundredBytes();
    wipeEmptyAndFull();
    everyByteEverywhere();
    figuresOfVisits();
    textsThatEnd();
    nineWalks();
    layEmptyAndRefused();
    setsOfDoubt();
    unlikeThings();
    lanesOfOneEnd();
    turningsRound();
    lanesThatMeet();
    cornersApart();
    lowestWalkThatBars();
    fewestDoubts();
    twentyCorners();
    twoHundredEnds();
    mostEndsOfAText();
    placesInWalks();
    goingRound();
    openEnds();
    whatsOfTown();
    partsAndFlat();
    pairsThatMayBe();
    askedAnew();
    smallestUpToFour();
    smallestUpToTwentyFour();
    turningsOfWays();
    noWay();
    turningsTold();
    walksThatCannotGoOn();
    twoKept();
    whatsOfCount();
    emptyTown();
    t.end("BoundaryTests");
  }

  private static WalkersSay laid(String text) { return t.laid(text); }

  private static String times(String s, int n) { return Checks.times(s, n); }

  private static void why(String text, int want) { t.due("why of " + text, laid(text).why(), want); }

  private static void bars(String text, boolean so) { why(text, so ? 0 : NONE); }

  // ---- texts

  /** n bytes (1 to 8) of v, the highest first. */
  private static void bytesOfWrite() {
    int[] wrong = {Integer.MIN_VALUE, -8, -1, 0, 9, 10, 16, Integer.MAX_VALUE};
    for (int n : wrong) t.due("write(" + n + ")", new WalkersSay().write(n, 0x613B), BAD);
    String eight = "a1#3b2;!";
    for (int n = 1; n <= 8; n++) {
      WalkersSay x = new WalkersSay();
      long v = -1;
      for (int i = 0; i < n; i++) v = v << 8 | eight.charAt(i);
      t.due("write(" + n + ")", x.write(n, v), n);
      t.due("count(0) then", x.count(0), n);
      // all but the last can stand where they do, so one byte out of its order would be a fault
      t.due("fault of " + n, x.fault(), n == 7 ? NONE : n == 8 ? 7 : n);
    }
    for (int n = 2; n <= 8; n++) {
      WalkersSay x = new WalkersSay();
      long v = 'a';
      for (int i = 2; i < n; i++) v = v << 8 | '1';
      x.write(n, v << 8 | ';');
      t.due("lay of " + n, x.lay(), 1);
      t.due("turnings of " + n, x.count(2), n - 2);
    }
    t.due("the lowest bytes of v", new WalkersSay().write(1, 0x7F61L << 48 | 'a'), 1);
    t.due("v is 0", new WalkersSay().write(8, 0), 8);
    t.due("v is the least", new WalkersSay().write(8, Long.MIN_VALUE), 8);
    t.due("the highest byte comes first", faultOf(8, Long.MIN_VALUE | 0x31313131313131L), 0);
    t.due("the highest byte comes first", faultOf(8, 'a' * (1L << 56) | 0x31313131313181L), 7);
  }

  private static int faultOf(int n, long v) {
    WalkersSay x = new WalkersSay();
    x.write(n, v);
    return x.fault();
  }

  /** 300 at most: a write that does not go in whole leaves all of it out. */
  private static void threeHundredBytes() {
    for (int n = 1; n <= 8; n++) {
      for (int room = 0; room <= 9; room++) {
        WalkersSay x = Checks.written("a" + times("1", 299 - room));
        boolean fits = n <= room;
        String call = "write(" + n + ") with room for " + room;
        t.due(call, x.write(n, 0x3B3B3B3B3B3B3B3BL), fits ? 300 - room + n : FULL);
        t.due(call + ", count(0)", x.count(0), fits ? 300 - room + n : 300 - room);
        t.due(call + ", fault", x.fault(), !fits ? 300 - room : n == 1 ? NONE : 301 - room);
      }
    }
    WalkersSay x = Checks.written("a" + times("1", 299));
    t.due("fault at the end of 300", x.fault(), 300);
    t.due("lay of it", x.lay(), NO);
    WalkersSay whole = Checks.written("a" + times("0", 298) + ";");
    t.due("lay of 300", whole.lay(), 1);
    t.due("turnings of 300", whole.count(2), 298);
    t.due("lanes taken in 300", whole.corner(0, 298), 0);
    t.due("lanes taken in 300", whole.corner(0, 297), 1);
    t.due("beyond those of 300", whole.corner(0, 299), BAD);
    WalkersSay again = Checks.written(times("a", 300));
    again.wipe();
    t.due("room again", again.write(8, 0), 8);
    for (int i = 0; i < 36; i++) again.write(8, 0);
    t.due("296", again.count(0), 296);
    t.due("296 and 5", again.write(5, 0), FULL);
    t.due("296 and 4", again.write(4, 0), 300);
  }

  private static void wipeEmptyAndFull() {
    WalkersSay x = new WalkersSay();
    t.due("wipe of nothing", x.wipe(), 0);
    x.write(1, 'a');
    t.due("wipe of one", x.wipe(), 1);
    t.due("empty then", x.count(0), 0);
    t.due("without fault then", x.fault(), NONE);
    Checks.add(x, times("a", 299));
    t.due("wipe of 299", x.wipe(), 299);
    Checks.add(x, times("a", 300));
    t.due("wipe of 300", x.wipe(), 300);
    t.due("wipe again", x.wipe(), 0);
    WalkersSay y = laid("a1;b;");
    y.wipe();
    t.due("LAID stays", y.count(1), 2);
    t.due("LAID stays", y.corners(), 3);
  }

  // ---- what can't stand where

  private static void everyByteEverywhere() {
    String token = "012345abcdefgh#=!;", thing = "abcdefgh";
    everyByte("", thing);
    everyByte("a;", thing);
    everyByte("a1;b;", thing);
    everyByte("a", token);
    everyByte("a1", token);
    everyByte("a#6", token);
    everyByte("ab5", token);
    everyByte("a=0", token);
    everyByte("a!0", token);
    everyByte("a1;b", token);
    for (char c : thing.toCharArray()) everyByte("a" + c, "012345");
    everyByte("a#", "123456");
    everyByte("a1#", "123456");
    everyByte("a=", "0");
    everyByte("a!", "0");
    everyByte(times("a;", 8), thing);
    everyByte(times("a;", 9), "");
    everyByte(times("a1#2;", 9), "");
  }

  private static void everyByte(String before, String allowed) {
    for (int b = 0; b < 256; b++) {
      WalkersSay x = Checks.written(before + (char) b);
      int at = before.length();
      int want = allowed.indexOf(b) < 0 ? at : b == ';' ? NONE : at + 1;
      String call = "fault of " + before + " and byte " + b;
      t.due(call, x.fault(), want);
      t.due("lay, " + call, x.lay() == NO ? 1 : 0, want == NONE ? 0 : 1);
      x.write(2, 0x3B3BL);
      if (allowed.indexOf(b) < 0) t.due("the first, " + call, x.fault(), at);
    }
  }

  /** One figure, no more than were taken by now. */
  private static void figuresOfVisits() {
    for (int taken = 0; taken <= 12; taken++) {
      String figures = "0123456789".substring(0, Math.min(10, taken + 1));
      everyByte("a" + times("1", taken) + "=", figures);
      everyByte("a" + times("1", taken) + "!", figures);
      everyByte("a" + times("0", taken) + "=", figures);
      everyByte("a" + times("5#6", taken) + "!", figures);
      everyByte("a1111111111;b" + times("1", taken) + "=", figures);
    }
    everyByte("ab5#6=0!0h5=", "0");
    everyByte("a1b5#6=1!0h5!", "01");
    t.due("=10 is =1 and turning 0", laid("a1111111111=10;").count(2), 11);
  }

  /** The end: how many bytes there are, if the last walk has no ; . */
  private static void textsThatEnd() {
    String whole = "a1b0#3=1!0;h05;";
    for (int n = 0; n <= whole.length(); n++) {
      WalkersSay x = Checks.written(whole.substring(0, n));
      int want = n == 0 || n == 11 || n == 15 ? NONE : n;
      t.due("fault of the first " + n, x.fault(), want);
    }
    t.due("fault ahead of the end", Checks.written("a16").fault(), 2);
    t.due("a walk of nothing", Checks.written("a;;").fault(), 2);
    t.due("nothing but ;", Checks.written(";").fault(), 0);
  }

  private static void nineWalks() {
    for (int n = 0; n <= 9; n++) {
      WalkersSay x = Checks.written(times("a1;", n));
      t.due("fault of " + n + " walks", x.fault(), NONE);
      t.due("lay of " + n + " walks", x.lay(), n);
      t.due("count(1)", x.count(1), n);
      t.due("count(2)", x.count(2), n);
      t.due("the last one", x.corner(n - 1, 1), n == 0 ? BAD : 1);
      t.due("the one behind it", x.corner(n, 0), BAD);
    }
    WalkersSay ten = Checks.written(times("a1;", 10));
    t.due("fault of ten", ten.fault(), 27);
    t.due("lay of ten", ten.lay(), NO);
    t.due("an earlier fault comes first", Checks.written(times("a1;", 8) + "a6;a1;").fault(), 25);
    t.due("the ninth without ;", Checks.written(times("a1;", 8) + "a1").fault(), 26);
  }

  private static void layEmptyAndRefused() {
    WalkersSay x = laid("a1;b;");
    x.doubt(2);
    x.write(1, 'c');
    t.due("lay without ;", x.lay(), NO);
    t.due("DOUBTED stay", x.count(3), 1);
    t.due("LAID stays", x.corners(), 2);
    x.write(1, ';');
    t.due("lay with it", x.lay(), 3);
    t.due("none is DOUBTED then", x.count(3), 0);
    t.due("all three", x.corners(), 4);
    x.doubt(7);
    t.due("the same once more", x.lay(), 3);
    t.due("none is DOUBTED then", x.doubt(0), 0);
    x.doubt(1);
    x.wipe();
    t.due("lay of the empty one", x.lay(), 0);
    t.due("no walks", x.count(1), 0);
    t.due("no doubts", x.count(3), 0);
    t.due("no corners", x.corners(), 0);
  }

  private static void setsOfDoubt() {
    for (int n = 0; n <= 9; n++) {
      WalkersSay x = laid(times("a;", n));
      int all = (1 << n) - 1;
      t.due("doubt(0) of " + n, x.doubt(0), 0);
      t.due("doubt of all " + n, x.doubt(all), 0);
      t.due("count(3)", x.count(3), n);
      int[] wrong = {1 << n, all + 2, -1, Integer.MIN_VALUE, Integer.MAX_VALUE, 1 << 30, Integer.MIN_VALUE | all};
      for (int set : wrong) t.due("doubt(" + set + ") of " + n, x.doubt(set), BAD);
      t.due("what it was", x.doubt(all >> 1), all);
      t.due("what it was", x.doubt(0), all >> 1);
      t.due("count(3)", x.count(3), 0);
    }
  }

  // ---- what bars

  private static void unlikeThings() {
    for (char one = 'a'; one <= 'h'; one++) {
      for (char other = 'a'; other <= 'h'; other++) {
        bars("" + one + other + "0;", one != other);
        bars("" + one + other + "5;", one != other);
        bars(one + "1" + other + "0;", false);
      }
    }
    // next on, and next on from that: still one corner
    why("a1b0;c2;ac5;", 2);
    why("a#2;a1b0;a01;b0a1;", NONE);
    bars("a1b0=0;", true);
    bars("a1a0;", false);
    bars("a1a2;", false);
  }

  private static void lanesOfOneEnd() {
    bars("a0a0;", true);
    bars("a0=0;", true);
    bars("a1=0;", false);
    bars("a00=0;", false);
    bars("a00=1;", true);
    bars("a00a0;", false);
    for (int out = 0; out <= 5; out++) {
      for (int in = 0; in <= 5; in++) bars("a" + out + "a" + in + ";", out == in);
    }
    // in the end: the lane's ends are one only when its corner goes round
    why("a0a3;a#3;", 1);
    why("a0a3;a#4;", NONE);
    why("a#3;a0a3;", 1);
  }

  /** A turning of 1 to 5 leads to the end by which one came just if the corner goes round in so many. */
  private static void turningsRound() {
    for (int lanes = 1; lanes <= 6; lanes++) {
      for (int turning = 0; turning <= 5; turning++) {
        boolean round = turning > 0 && turning % lanes == 0;
        bars("a#" + lanes + turning + ";", round);
        why("a" + turning + ";a#" + lanes + ";", round ? 1 : NONE);
        bars("a0#" + lanes + turning + ";", round);
        if (lanes < 6) why("b;a" + turning + ";aa" + lanes + ";", round ? 2 : NONE);
      }
    }
    bars("aa0" + "1;", false);
    bars("aa11;", true);
  }

  /** Just d lanes: no more round, no fewer. */
  private static void lanesThatMeet() {
    for (int one = 1; one <= 6; one++) {
      for (int other = 1; other <= 6; other++) {
        bars("a#" + one + "#" + other + ";", one != other);
        why("a#" + one + ";b;a#" + other + ";", one == other ? NONE : 2);
        bars("a0#" + one + "00#" + other + ";", one != other);
      }
      for (int k = 0; k <= 5; k++) {
        bars("a#" + one + "a" + k + ";", k % one != 0);
        why("aa" + k + ";a#" + one + ";", k % one == 0 ? NONE : 1);
      }
    }
  }

  private static void cornersApart() {
    bars("a!0;", true);
    bars("a1!0;", false);
    bars("a1!1;", true);
    bars("a10!0;", true);
    bars("a10!1;", false);
    bars("a1!0a0;", true);
    bars("a1!0a5;", true);
    bars("a1!0b0;", false);
    why("a1!0;a1a3;", 1);
    why("a1a3;a1!0;", 1);
    bars("a1!0=0;", true);
    bars("a1=0!0;", true);
    bars("a111111111!0!1!2!3!4!5!6!7!8;", false);
    bars("a111111111!9;", true);
  }

  private static void lowestWalkThatBars() {
    for (int n = 1; n <= 9; n++) {
      for (int at = 0; at < n; at++) {
        WalkersSay x = laid(times("a;", at) + "a!0;" + times("a;", n - at - 1));
        t.due("why, walk " + at + " of " + n, x.why(), at);
        t.due("fewest", x.fewest(), 1 << at);
        x.doubt((1 << n) - 1 - (1 << at));
        t.due("with all others DOUBTED", x.why(), at);
        x.doubt(1 << at);
        t.due("without it", x.why(), NONE);
      }
    }
    WalkersSay x = laid("a1b0;c;a1c0;a!0;");
    t.due("the lowest", x.why(), 2);
    x.doubt(1);
    t.due("without 0", x.why(), 3);
    x.doubt(4);
    t.due("without 2", x.why(), 3);
    x.doubt(12);
    t.due("without 2, 3", x.why(), NONE);
    x.doubt(15);
    t.due("of none", x.why(), NONE);
  }

  private static void fewestDoubts() {
    for (int n = 0; n <= 9; n++) {
      t.due("none of " + n, laid(times("a;", n)).fewest(), 0);
      t.due("all of " + n, laid(times("a!0;", n)).fewest(), (1 << n) - 1);
    }
    t.due("of two the least bits", laid("a1b0;a1c0;").fewest(), 1);
    t.due("fewer come ahead of lower", laid("a1b0;a1b1;a1c0;").fewest(), 4);
    t.due("fewer come ahead of lower", laid(times("a1b0;", 8) + "a1c0;").fewest(), 256);
    t.due("fewer come ahead of lower", laid("a1c0;" + times("a1b0;", 8)).fewest(), 1);
    t.due("four and four", laid(times("a1b0;", 4) + times("a1c0;", 4)).fewest(), 15);
    t.due("four and five", laid(times("a1b0;", 5) + times("a1c0;", 4)).fewest(), 15 << 5);
    // 1 and 2 clash, 2 and 3: 2 alone is fewer than any two
    t.due("the one between", laid("a;a1b0;a1c0a2d0;a2e0;").fewest(), 4);
    WalkersSay x = laid("a1b0;a1c0;");
    for (int set = 0; set <= 3; set++) {
      x.doubt(set);
      t.due("whichever are DOUBTED", x.fewest(), 1);
    }
  }

  // ---- corners and ends

  private static void twentyCorners() {
    for (int n = 1; n <= 22; n++) {
      WalkersSay x = laid("a" + times("1", n - 1) + ";");
      t.due(n + " corners", x.corners(), n <= 20 ? n : FULL);
      t.due(n + " corners, the last", x.corner(0, n - 1), n <= 20 ? n - 1 : FULL);
      t.due(n + " corners bar not", x.why(), NONE);
    }
    String seven = "a11;b11;c11;d11;e11;f11;g11;";
    t.due("21 of seven walks", laid(seven).corners(), FULL);
    t.due("20 of seven walks", laid(seven.replace("g11", "g1")).corners(), 20);
    t.due("20 and one that is one of them", laid(seven.replace("g11", "g1f0")).corners(), 19);
    t.due("21 but two are one", laid(seven.replace("g11", "g11f0")).corners(), 20);
    WalkersSay x = laid("b;" + Checks.CORNERS_20);
    t.due("20 and one more", x.corners(), FULL);
    x.doubt(1);
    t.due("the one DOUBTED", x.corners(), 20);
    x.doubt(0);
    t.due("and not", x.corners(), FULL);
    t.due("nobody took the others", laid("a#6" + times("5", 19) + ";").corners(), 20);
    t.due("21 that bar", laid(Checks.CORNERS_21 + "a!0;").corners(), NO);
    atTheLimits(laid(Checks.CORNERS_20), 20, 0);
    allFull(laid(Checks.CORNERS_21));
  }

  private static void twoHundredEnds() {
    t.due("200 ends", laid(Checks.ENDS_200).corners(), 19);
    t.due("201 ends", laid(Checks.ENDS_201).corners(), FULL);
    WalkersSay x = laid(Checks.ENDS_201 + Checks.ENDS_200);
    t.due("201 ends and 200 of them", x.corners(), FULL);
    x.doubt(1);
    t.due("201 DOUBTED", x.corners(), 19);
    x.doubt(2);
    t.due("200 DOUBTED", x.corners(), FULL);
    String both = "a" + times("5#60", 17) + "5#105#1;";
    t.due("20 corners with 200 ends", laid(both).corners(), 20);
    t.due("20 corners with 201 ends", laid(both.replace("#1;", "#2;")).corners(), FULL);
    // told again and again, they are still the same ends
    t.due("a thousand told, 115 in all", laid(times("a" + times("5", 19) + ";", 9)).town(1), 115 - 38);
    int sum = 0;
    WalkersSay y = laid(Checks.ENDS_200);
    for (int c = 0; c < 19; c++) sum += y.about(c, 0);
    t.due("200 in all", sum, 200);
    // 18 lanes lead out, the last one leads from a to a
    t.due("both ends told", y.town(0), 19);
    t.due("open ones", y.town(1), 200 - 38);
    atTheLimits(y, 19, 1);
    allFull(laid(Checks.ENDS_201));
  }

  /** The most ends that a text can tell: the last of them is as good as the first. */
  private static void mostEndsOfAText() {
    String most = "a" + times("5", 296);
    why(most + "#6;", NONE);
    why(most + "#5;", NONE);
    why(most + "5;", NONE);
    why(most + "!0;", NONE);
    why(most + "=0;", NONE);
    why("a" + times("5", 294) + "#6#5;", 0);
    why("a" + times("5", 294) + "b0c0;", 0);
    why("a" + times("5", 293) + "#550;", 0);
    why("a" + times("5", 293) + "#650;", NONE);
    t.due("fewest of the most", laid("a" + times("5", 290) + "#6#5;").fewest(), 1);
  }

  private static void atTheLimits(WalkersSay x, int corners, int loops) {
    t.due("corners at the limit", x.corners(), corners);
    t.due("lanes at the limit", x.town(0), corners - 1 + loops);
    t.due("parts at the limit", x.town(3), 1);
    t.due("flat at the limit", x.town(2), 1);
    t.due("the last corner", x.about(corners - 1, 1) >= 0 ? 1 : 0, 1);
    t.due("behind the last corner", x.about(corners, 0), BAD);
    t.due("may of the last", x.may(corners - 1, corners - 1), 2);
    t.due("pairs at the limit", x.pairs(-1) >= 0 ? 1 : 0, 1);
    t.due("smallest at the limit", x.smallest(), NO);
    t.due("told at the limit", x.told(0, 1, corners == 20 ? 1 : 5, 0), 1);
  }

  private static void allFull(WalkersSay x) {
    t.due("FULL corners", x.corners(), FULL);
    t.due("FULL corner", x.corner(0, 0), FULL);
    for (int what = 0; what <= 3; what++) {
      t.due("FULL about", x.about(0, what), FULL);
      t.due("FULL town", x.town(what), FULL);
    }
    t.due("FULL may", x.may(0, 0), FULL);
    t.due("FULL pairs", x.pairs(-1), FULL);
    t.due("FULL pairs", x.pairs(0), FULL);
    t.due("FULL way", x.way(0, 0, -1), FULL);
    t.due("FULL told", x.told(0, 0, 0, 0), FULL);
    t.due("more than 4: NO comes ahead of FULL", x.smallest(), NO);
    t.due("why is not of that", x.why(), NONE);
    t.due("fewest is not of that", x.fewest(), 0);
    t.due("keep is not of that", x.keep(), 1);
    t.due("back is not of that", x.back(), 0);
    t.due("doubt is not of that", x.doubt(1), 0);
    t.due("none of it then", x.corners(), 0);
  }

  private static void placesInWalks() {
    WalkersSay x = laid("a12;b;c0;");
    int[] lanes = {2, 0, 1};
    int next = 0;
    for (int walk = 0; walk < 3; walk++) {
      t.due("i = -1", x.corner(walk, -1), BAD);
      for (int i = 0; i <= lanes[walk]; i++) t.due("corner(" + walk + ", " + i + ")", x.corner(walk, i), next++);
      t.due("i beyond", x.corner(walk, lanes[walk] + 1), BAD);
      t.due("i far beyond", x.corner(walk, Integer.MAX_VALUE), BAD);
      t.due("i far below", x.corner(walk, Integer.MIN_VALUE), BAD);
    }
    int[] none = {-1, 3, 8, 9, 31, 32, Integer.MAX_VALUE, Integer.MIN_VALUE};
    for (int walk : none) t.due("corner(" + walk + ", 0)", x.corner(walk, 0), BAD);
    x.doubt(2);
    t.due("a DOUBTED one", x.corner(1, 0), BAD);
    t.due("the one ahead", x.corner(0, 2), 2);
    t.due("the one behind", x.corner(2, 0), 3);
    x.doubt(0);
    t.due("no more DOUBTED", x.corner(1, 0), 3);
  }

  /** All known, if going on from one of them leads round to it. */
  private static void goingRound() {
    for (int lanes = 1; lanes <= 6; lanes++) {
      WalkersSay x = laid("a#" + lanes + ";");
      t.due("# " + lanes + ": known lanes", x.about(0, 0), lanes);
      t.due("# " + lanes + ": all known", x.about(0, 1), 1);
      t.due("# " + lanes + ": open", x.about(0, 3), lanes);
      WalkersSay row = laid("a" + (lanes - 1) + ";");
      t.due("turning " + (lanes - 1) + ": known lanes", row.about(0, 0), lanes);
      t.due("turning " + (lanes - 1) + ": all known", row.about(0, 1), 0);
    }
    for (int k = 0; k <= 5; k++) {
      WalkersSay x = laid("aa" + k + ";");
      t.due("the thing " + k + " on: known lanes", x.about(0, 0), Math.max(1, k));
      t.due("the thing " + k + " on: all known", x.about(0, 1), k == 0 ? 0 : 1);
    }
    // 4 on and 3 on are both the first end, so all of them are
    t.due("4 and 3: known lanes", laid("aa4;aa3;").about(0, 0), 1);
    t.due("4 and 3: all known", laid("aa4;aa3;").about(0, 1), 1);
    t.due("4 and 2: known lanes", laid("aa4;aa2;").about(0, 0), 2);
    t.due("seven in a row", laid("a501;").about(0, 0), 7);
    t.due("seven in a row, all known", laid("a501;").about(0, 1), 0);
    WalkersSay x = laid("a1;");
    int[] whats = {Integer.MIN_VALUE, -1, 4, 5, Integer.MAX_VALUE};
    for (int what : whats) t.due("about(0, " + what + ")", x.about(0, what), BAD);
    int[] corners = {Integer.MIN_VALUE, -1, 2, 3, 20, Integer.MAX_VALUE};
    for (int corner : corners) t.due("about(" + corner + ", 0)", x.about(corner, 0), BAD);
    for (int thing = 0; thing < 8; thing++) {
      WalkersSay y = laid((char) ('a' + thing) + "1;");
      t.due("thing " + thing, y.about(0, 2), thing);
      t.due("no thing", y.about(1, 2), NONE);
    }
  }

  private static void openEnds() {
    t.due("one, nobody took it", laid("a;").about(0, 3), 1);
    t.due("one, taken", laid("a0;").about(0, 3), 0);
    t.due("both ends at one corner", laid("a0a1;").about(0, 3), 0);
    t.due("both ends at one corner: known", laid("a0a1;").about(0, 0), 2);
    t.due("those between", laid("a5;").about(0, 3), 5);
    t.due("the corner one comes to", laid("a5;").about(1, 3), 0);
    t.due("no open ones at all", laid("a0;").town(1), 0);
    t.due("open ones of all corners", laid("a5#6;b;").town(1), 5 + 5 + 1);
  }

  private static void whatsOfTown() {
    WalkersSay x = laid("a1;b;");
    int[] due = {1, 2, 1, 2};
    for (int what = 0; what < 4; what++) t.due("town(" + what + ")", x.town(what), due[what]);
    int[] none = {Integer.MIN_VALUE, -1, 4, 5, Integer.MAX_VALUE};
    for (int what : none) t.due("town(" + what + ")", x.town(what), BAD);
  }

  private static void partsAndFlat() {
    for (int n = 0; n <= 8; n++) {
      StringBuilder s = new StringBuilder();
      for (int i = 0; i < n; i++) s.append((char) ('a' + i)).append(';');
      t.due(n + " corners by themselves: parts", laid(s.toString()).town(3), n);
      t.due(n + " corners by themselves: flat", laid(s.toString()).town(2), 1);
      t.due(n + " corners by themselves: lanes", laid(s.toString()).town(0), 0);
    }
    // two loops at one corner: 1 - 2 + faces, so three faces lie flat and one does not
    t.due("loops side by side", laid("a0a1;a2a3;").town(2), 1);
    t.due("loops within one another", laid("a0a3;a1a2;").town(2), 1);
    t.due("loops that cross", laid("a0a2;a1a3;").town(2), 0);
    t.due("known to go round or not", laid("a0a2;a1a3;a#4;").town(2), 0);
    t.due("lanes between are left out", laid("a0a3;a2a5;").town(2), 0);
    t.due("lanes between are left out", laid("a0a5;a2a4;").town(2), 1);
    t.due("a flat part and one that is not", laid("b1;a0a2;a1a3;").town(2), 0);
    t.due("a part that is not and a flat one", laid("a0a2;a1a3;b1;").town(2), 0);
    t.due("two that are not", laid("a0a2;a1a3;b0b2;b1b3;").town(2), 0);
    t.due("three lanes, the other order", laid("a0b2;a1b1;a2b0;").town(2), 1);
    t.due("three lanes, the same order", laid("a0b0;a1b1;a2b2;").town(2), 0);
    t.due("two lanes in any order", laid("a0b0;a1b1;").town(2), 1);
  }

  private static void pairsThatMayBe() {
    for (int n = 1; n <= 20; n++) {
      WalkersSay x = laid("a" + times("1", n - 1) + ";");
      int pairs = n * (n - 1) / 2;
      t.due(n + " corners: pairs", x.pairs(-1), pairs);
      t.due(n + " corners: the last pair", x.pairs(pairs - 1), n == 1 ? 0 : 100 * (n - 2) + n - 1);
      t.due(n + " corners: beyond", x.pairs(pairs), NONE);
    }
    WalkersSay none = laid("a;b;");
    t.due("none", none.pairs(-1), 0);
    t.due("none, the first", none.pairs(0), NONE);
    t.due("none, far beyond", none.pairs(Integer.MAX_VALUE), NONE);
    t.due("i = -2", none.pairs(-2), BAD);
    t.due("i the least", none.pairs(Integer.MIN_VALUE), BAD);
    WalkersSay x = laid("a1;b;");
    for (int a = 0; a < 3; a++) {
      t.due("MUST", x.may(a, a), 2);
      t.due("one too low", x.may(a, -1), BAD);
      t.due("one too low", x.may(-1, a), BAD);
      t.due("one beyond", x.may(a, 3), BAD);
      t.due("one beyond", x.may(3, a), BAD);
    }
    t.due("alike numbers that are none", x.may(3, 3), BAD);
    t.due("alike numbers that are none", x.may(-1, -1), BAD);
    // of three ways to lay # 3 on # 3 two bring b to c or d: the third is enough, until it brings b to e
    t.due("some end of some ends", laid("a#31c0;a2d0;b0#3;").may(0, 4), 1);
    t.due("no end of any", laid("a#31c0;a2d0;a0e0;b0#3;").may(0, 5), 0);
    // the corner behind b has one end: it may be the 3rd of a, until that leads to a thing, too
    t.due("the last end of the one", laid("a0c0;a1d0;a2;b0;").may(0, 5), 1);
    t.due("the last end of the other", laid("b0;a0c0;a1d0;a2;").may(1, 2), 1);
    t.due("no end of the one", laid("a0c0;a1d0;a2e0;b0;").may(0, 5), 0);
    t.due("no end of the other", laid("b0;a0c0;a1d0;a2e0;").may(1, 2), 0);
    for (int one = 1; one <= 6; one++) {
      for (int other = 1; other <= 6; other++) {
        t.due("#" + one + " and #" + other, laid("a#" + one + ";b0#" + other + ";").may(0, 2), one == other ? 1 : 0);
      }
    }
  }

  /** What may be one is asked anew when what is LAID or DOUBTED changes. */
  private static void askedAnew() {
    WalkersSay x = laid("a1!0;b;a1;");
    t.due("apart", x.may(0, 1), 0);
    t.due("apart: pairs", x.pairs(-1), 1);
    t.due("apart: smallest", x.smallest(), 2);
    x.keep();
    x.doubt(1);
    t.due("not apart", x.may(1, 2), 1);
    t.due("not apart: numbers", x.corner(2, 1), 2);
    t.due("not apart: pairs", x.pairs(-1), 2);
    t.due("not apart: smallest", x.smallest(), 2);
    x.wipe();
    Checks.add(x, "a1;a1;");
    x.lay();
    t.due("another", x.may(0, 1), 1);
    t.due("another: smallest", x.smallest(), 1);
    x.back();
    t.due("apart again", x.may(0, 1), 0);
    t.due("apart again: smallest", x.smallest(), 2);
  }

  private static void smallestUpToFour() {
    t.due("none", new WalkersSay().smallest(), 0);
    t.due("of 1", laid("a;").smallest(), 1);
    t.due("of 2", laid("a1;").smallest(), 1);
    t.due("of 3", laid("a11;").smallest(), 1);
    t.due("of 4", laid("a111;").smallest(), 1);
    t.due("of 5", laid("a1111;").smallest(), NO);
    t.due("4 that can't", laid("a;b;c;d;").smallest(), 4);
    t.due("5 that can't", laid("a;b;c;d;e;").smallest(), NO);
    t.due("3 of 4", laid("a1!0;b;c;").smallest(), 3);
    t.due("2 of 4", laid("a1!0;b1!0;").smallest(), 2);
    // a with the last one, b with the one between: neither pair is enough alone
    t.due("two pairs of 4", laid("a;b11!0;").smallest(), 2);
    t.due("two pairs of 4", laid("a;b02!1;").smallest(), 2);
    // the last one's end can only be the lane that a turning of 2 passed over
    t.due("the end between", laid("a#102;").smallest(), 2);
    WalkersSay x = laid("a111;b;");
    t.due("4 and one", x.smallest(), NO);
    x.doubt(2);
    t.due("the one DOUBTED", x.smallest(), 1);
    t.due("the town stays", x.corners(), 4);
    t.due("it bars", laid("a!0;").smallest(), NO);
  }

  /** Corners of six lanes: 6, 12, 18, 24; one end more is one too many, however few the corners are. */
  private static void smallestUpToTwentyFour() {
    t.due("24 at 4", laid("a#65#65#65#6;").smallest(), 1);
    t.due("24 at 4: corners", laid("a#65#65#65#6;").corners(), 4);
    // 16 at a and 3 across, then one of these has six, then another has two
    t.due("19 at 4", sumOfEnds("a50505b0;"), 19);
    t.due("19 at 4: smallest", laid("a50505b0;").smallest(), 2);
    t.due("24 at 4", sumOfEnds("a50505b0#6;"), 24);
    t.due("24 at 4: smallest", laid("a50505b0#6;").smallest(), 2);
    t.due("25 at 4", sumOfEnds("a50505b0#6;a5#2;"), 25);
    t.due("25 at 4: corners", laid("a50505b0#6;a5#2;").corners(), 4);
    t.due("25 at 4: smallest", laid("a50505b0#6;a5#2;").smallest(), NO);
    // 21 at a and 4 at b
    t.due("25 at 2", sumOfEnds("a5b005b105b205b3;"), 25);
    t.due("25 at 2", laid("a5b005b105b205b3;").smallest(), NO);
    t.due("25 at 2: corners", laid("a5b005b105b205b3;").corners(), 2);
    t.due("24 at 2", sumOfEnds("a5b005b105b204b3;"), 24);
    t.due("24 at 2: smallest", laid("a5b005b105b204b3;").smallest(), 2);
    t.due("23 at 2", laid("a5b005b105b203b3;").smallest(), 2);
  }

  private static int sumOfEnds(String text) {
    WalkersSay x = laid(text);
    int sum = 0;
    for (int c = 0; c < x.corners(); c++) sum += x.about(c, 0);
    t.due("ends of " + text + " by lanes", 2 * x.town(0) + x.town(1), sum);
    return sum;
  }

  // ---- ways and walks

  private static void turningsOfWays() {
    for (int k = 1; k <= 5; k++) {
      WalkersSay x = laid("a" + k + "b0;");
      t.due("turning " + k, x.way(0, 1, -1), 1);
      t.due("turning " + k, x.way(0, 1, 0), k);
      t.due("beyond", x.way(0, 1, 1), NONE);
    }
    t.due("back is no turning of a way", laid("a0b0;").way(0, 1, -1), NONE);
    t.due("the 6th on is none", laid("a501b0;").way(0, 2, -1), NONE);
    t.due("the 5th on is one", laid("a401b0;").way(0, 2, 0), 5);
    // round the corner of 3 the lane 1 on is 4 on, too: the lower one is told
    t.due("the lower of two", laid("a#31b0;").way(0, 1, 0), 1);
    t.due("of two lanes the lower", laid("a5b0;a2b1;").way(0, 1, 0), 2);
    // 1 then 5, or 2 then 1: the first turning is looked at first
    WalkersSay x = laid("a1b05d0;a2c01d1;");
    t.due("two turnings", x.way(0, x.corner(0, 2), -1), 2);
    t.due("the lower first one", x.way(0, x.corner(0, 2), 0), 1);
    t.due("then the second", x.way(0, x.corner(0, 2), 1), 5);
    t.due("fewer come ahead of lower", laid("a11b0;a5b1;").way(0, 2, 0), 5);
    for (int n = 0; n <= 19; n++) {
      WalkersSay far = laid(Checks.CORNERS_20);
      t.due("way of " + n, far.way(0, n, -1), n);
      t.due("way of " + n + ", the last", far.way(0, n, n - 1), n == 0 ? 0 : 1);
      t.due("way of " + n + ", not so many", far.way(0, n, n), NONE);
    }
  }

  private static void noWay() {
    WalkersSay x = laid("a1;b1;");
    t.due("to where one is", x.way(0, 0, -1), 0);
    t.due("to where one is, the first", x.way(0, 0, 0), NONE);
    t.due("another part", x.way(0, 2, -1), NONE);
    t.due("another part", x.way(0, 3, 0), NONE);
    t.due("far beyond", x.way(0, 1, Integer.MAX_VALUE), NONE);
    for (int thing = 2; thing < 8; thing++) t.due("not told " + thing, x.way(thing, 0, -1), NONE);
    t.due("thing -1", x.way(-1, 0, -1), BAD);
    t.due("thing 8", x.way(8, 0, -1), BAD);
    t.due("i = -2", x.way(0, 1, -2), BAD);
    t.due("corner -1", x.way(0, -1, -1), BAD);
    t.due("the last corner", x.way(1, 3, -1), 1);
    t.due("behind the last corner", x.way(1, 4, -1), BAD);
    x.doubt(2);
    t.due("told by a DOUBTED walk alone", x.way(1, 0, -1), NONE);
  }

  private static void turningsTold() {
    WalkersSay x = laid("a0;");
    for (int n = 0; n <= 12; n++) {
      t.due(n + " times back", x.told(0, n, 0, 0), n);
      t.due(n + " times back, where", x.told(0, n, 0, 1), n % 2);
    }
    int[] ns = {Integer.MIN_VALUE, -1, 13, 14, 16, Integer.MAX_VALUE};
    for (int n : ns) t.due("n = " + n, x.told(0, n, 0, 0), BAD);
    int[] things = {Integer.MIN_VALUE, -1, 8, 9, Integer.MAX_VALUE};
    for (int thing : things) t.due("thing " + thing, x.told(thing, 0, 0, 0), BAD);
    int[] whats = {Integer.MIN_VALUE, -1, 2, 3, Integer.MAX_VALUE};
    for (int what : whats) t.due("what = " + what, x.told(0, 0, 0, what), BAD);
    for (int n = 1; n <= 12; n++) {
      for (int at = 0; at < n; at++) {
        for (int k = 0; k <= 15; k++) {
          WalkersSay y = laid("a0;");
          int gone = k == 0 ? n : n - 1 - at;
          t.due(n + " turnings, " + k + " at " + at, y.told(0, n, (long) k << 4 * at, 0), k > 5 ? BAD : gone);
        }
      }
    }
    for (int n = 0; n <= 12; n++) {
      for (int bit = 4 * n; bit < 64; bit++) t.due(n + " and bit " + bit, laid("a0;").told(0, n, 1L << bit, 0), BAD);
    }
    for (int thing = 1; thing < 8; thing++) t.due("not told " + thing, x.told(thing, 0, 0, 1), NONE);
  }

  private static void walksThatCannotGoOn() {
    for (int k = 0; k <= 5; k++) {
      WalkersSay x = laid("a" + k + ";");
      for (int turning = 0; turning <= 5; turning++) {
        t.due("a" + k + ", told " + turning, x.told(0, 1, turning, 0), turning == k ? 1 : 0);
        t.due("a" + k + ", told " + turning + ", where", x.told(0, 1, turning, 1), turning == k ? 1 : 0);
      }
    }
    for (int lanes = 1; lanes <= 6; lanes++) {
      // a corner of loops and lanes, all of them taken: each turning but one that leads round can be gone
      StringBuilder s = new StringBuilder("a#" + lanes + ";a0;");
      for (int k = 1; k < lanes; k++) s.append('a').append(k).append(';');
      WalkersSay x = laid(s.toString());
      for (int turning = 0; turning <= 5; turning++) {
        boolean can = turning == 0 || turning % lanes != 0;
        t.due("#" + lanes + ", told " + turning, x.told(0, 1, turning, 0), can ? 1 : 0);
      }
    }
    WalkersSay row = laid("a123;");
    t.due("all of it", row.told(0, 3, 0x123, 0), 3);
    t.due("all of it, where", row.told(0, 3, 0x123, 1), 3);
    t.due("one beyond", row.told(0, 4, 0x1231, 0), 3);
    t.due("one beyond, where", row.told(0, 4, 0x1231, 1), 3);
    t.due("no further behind a stop", row.told(0, 4, 0x1523, 0), 1);
    t.due("no further behind a stop, where", row.told(0, 4, 0x1523, 1), 1);
    t.due("not at all", row.told(0, 3, 0x223, 0), 0);
    t.due("not at all, where", row.told(0, 3, 0x223, 1), 0);
    t.due("there and back", row.told(0, 6, 0x123000, 1), 2);
  }

  // ---- what is kept, what is counted

  private static void twoKept() {
    WalkersSay x = laid("a;");
    t.due("back of none", x.back(), NO);
    t.due("count(4)", x.count(4), 0);
    t.due("keep one", x.keep(), 1);
    t.due("count(4)", x.count(4), 1);
    t.due("keep two", x.keep(), 2);
    t.due("count(4)", x.count(4), 2);
    t.due("keep three", x.keep(), FULL);
    t.due("count(4)", x.count(4), 2);
    t.due("back to one", x.back(), 1);
    t.due("keep two again", x.keep(), 2);
    t.due("keep three again", x.keep(), FULL);
    t.due("back", x.back(), 1);
    t.due("back", x.back(), 0);
    t.due("back of none", x.back(), NO);
    WalkersSay y = new WalkersSay();
    t.due("the empty one is kept", y.keep(), 1);
    Checks.add(y, "a1;b;");
    y.lay();
    y.doubt(1);
    t.due("with its doubts", y.keep(), 2);
    y.doubt(3);
    t.due("as kept last", y.back(), 1);
    t.due("its doubts", y.count(3), 1);
    t.due("its corners", y.corners(), 1);
    t.due("THE TEXT stays", y.count(0), 5);
    t.due("the empty one", y.back(), 0);
    t.due("no walks", y.count(1), 0);
    t.due("no doubts", y.doubt(0), 0);
    t.due("THE TEXT stays", y.lay(), 2);
    String longest = times("a" + times("0", 31) + ";", 9);
    WalkersSay z = laid(longest);
    z.keep();
    z.wipe();
    z.lay();
    z.back();
    t.due("297 bytes kept", z.count(2), 9 * 31);
    t.due("297 bytes kept", z.corner(8, 31), 1);
  }

  private static void whatsOfCount() {
    WalkersSay x = laid("a10;b5c5;");
    x.doubt(2);
    x.keep();
    int[] due = {9, 2, 3, 1, 1};
    for (int what = 0; what < 5; what++) t.due("count(" + what + ")", x.count(what), due[what]);
    int[] none = {Integer.MIN_VALUE, -1, 5, 6, Integer.MAX_VALUE};
    for (int what : none) t.due("count(" + what + ")", x.count(what), BAD);
  }

  /** No walks, or none that is not doubted: a town of nothing. */
  private static void emptyTown() {
    WalkersSay doubted = laid("a1;b;");
    doubted.doubt(3);
    WalkersSay[] towns = {new WalkersSay(), doubted};
    for (WalkersSay x : towns) {
      t.due("why", x.why(), NONE);
      t.due("fewest", x.fewest(), 0);
      t.due("corners", x.corners(), 0);
      t.due("corner(0, 0)", x.corner(0, 0), BAD);
      t.due("about(0, 0)", x.about(0, 0), BAD);
      int[] due = {0, 0, 1, 0};
      for (int what = 0; what < 4; what++) t.due("town(" + what + ")", x.town(what), due[what]);
      t.due("may(0, 0)", x.may(0, 0), BAD);
      t.due("pairs(-1)", x.pairs(-1), 0);
      t.due("pairs(0)", x.pairs(0), NONE);
      t.due("smallest()", x.smallest(), 0);
      t.due("way(0, 0, -1)", x.way(0, 0, -1), BAD);
      t.due("told(0, 0, 0, 1)", x.told(0, 0, 0, 1), NONE);
    }
  }
}
