/** For each promise: ordinary calls, the edges that the document names, and wrong ones. */
public final class PromiseTests {
  private static final int BAD = -1, NO = -2, FULL = -3, NONE = -4;
  private static int passed = 0, failed = 0;

  private static void due(String call, long got, long want) {
    if (got == want) { passed++; return; }
    failed++;
    System.out.println(call + " answered " + got + ", due is " + want);
  }

  private static void put(WalkersSay x, String text) {
    x.wipe();
    for (int i = 0; i < text.length(); i++) x.write(1, text.charAt(i));
  }

  private static WalkersSay laid(String text) {
    WalkersSay x = new WalkersSay();
    put(x, text);
    if (x.lay() < 0) due("lay of " + text, x.fault(), NONE);
    return x;
  }

  private static void why(String text, int want) { due("why of " + text, laid(text).why(), want); }

  private static void fault(String text, int want) {
    WalkersSay x = new WalkersSay();
    put(x, text);
    due("fault of " + text, x.fault(), want);
    due("lay of " + text, x.lay() == NO ? 1 : 0, want == NONE ? 0 : 1);
  }

  public static void main(String[] args) {
    newObject();
    writeAndWipe();
    faults();
    lay();
    doubt();
    bars();
    fewest();
    corners();
    corner();
    about();
    town();
    flat();
    may();
    pairs();
    smallest();
    way();
    told();
    keepAndBack();
    count();
    whatComesFirst();
    extremes();
    System.out.println("PromiseTests:");
    System.out.println(passed + " passed, " + failed + " failed");
    if (failed > 0) System.exit(1);
  }

  private static void newObject() {
    WalkersSay x = new WalkersSay();
    for (int what = 0; what < 5; what++) due("new: count(" + what + ")", x.count(what), 0);
    due("new: fault", x.fault(), NONE);
    due("new: why", x.why(), NONE);
    due("new: fewest", x.fewest(), 0);
    due("new: corners", x.corners(), 0);
    due("new: corner(0, 0)", x.corner(0, 0), BAD);
    due("new: about(0, 0)", x.about(0, 0), BAD);
    due("new: town(0)", x.town(0), 0);
    due("new: town(1)", x.town(1), 0);
    due("new: town(2)", x.town(2), 1);
    due("new: town(3)", x.town(3), 0);
    due("new: may(0, 0)", x.may(0, 0), BAD);
    due("new: pairs(-1)", x.pairs(-1), 0);
    due("new: pairs(0)", x.pairs(0), NONE);
    due("new: smallest", x.smallest(), 0);
    due("new: way(0, 0, -1)", x.way(0, 0, -1), BAD);
    due("new: told(0, 0, 0, 0)", x.told(0, 0, 0, 0), NONE);
    due("new: back", x.back(), NO);
    due("new: doubt(0)", x.doubt(0), 0);
    due("new: doubt(1)", x.doubt(1), BAD);
    due("new: wipe", x.wipe(), 0);
  }

  private static void writeAndWipe() {
    WalkersSay x = new WalkersSay();
    due("write(0)", x.write(0, 'a'), BAD);
    due("write(9)", x.write(9, 'a'), BAD);
    due("write(-1)", x.write(-1, 'a'), BAD);
    due("write(2) with more above", x.write(2, 0x7777_0000_0000_613BL), 2);
    due("high bytes are no part of it", x.fault(), NONE);
    due("the highest first", x.lay(), 1);
    for (int i = 1; i < 37; i++) due("write(8)", x.write(8, 0), 2 + 8 * i);
    due("write(2) to 292", x.write(2, 0), 292);
    due("write(8) to 300", x.write(8, -1), 300);
    due("write(1) over 300", x.write(1, 'a'), FULL);
    due("write(9) ahead of FULL", x.write(9, 'a'), BAD);
    due("count(0) at 300", x.count(0), 300);
    due("wipe", x.wipe(), 300);
    due("wipe again", x.wipe(), 0);
    due("what is laid stays", x.count(1), 1);
    for (int i = 0; i < 37; i++) x.write(8, 0);
    due("write(5) over 300", x.write(5, 0), FULL);
    due("write(4) to 300", x.write(4, 0), 300);
  }

  private static void faults() {
    fault("", NONE);
    fault("a;", NONE);
    fault("h;", NONE);
    fault("i;", 0);
    fault(";", 0);
    fault("#", 0);
    fault("a", 1);
    fault("a;;", 2);
    fault("a0;a5;", NONE);
    fault("a6;", 1);
    fault("a9;", 1);
    fault("a ;", 1);
    fault("a#1;a#6;", NONE);
    fault("a#0;", 2);
    fault("a#7;", 2);
    fault("a#;", 2);
    fault("a#", 2);
    fault("ab0;ah5;", NONE);
    fault("ab6;", 2);
    fault("ai0;", 1);
    fault("ab", 2);
    fault("a=0!0;", NONE);
    fault("a=1;", 2);
    fault("a1=1!1;", NONE);
    fault("a0=1;", NONE);
    fault("a1#1b1=2;", 7);
    fault("a1!2;", 3);
    fault("a1;b=1;", 5);
    fault("a111111111=9;", NONE);
    fault("a11111111=9;", 10);
    fault("a1111111111=9=10;", NONE);
    fault("a=a;", 2);
    fault("a;a;a;a;a;a;a;a;a;", NONE);
    fault("a;a;a;a;a;a;a;a;a;a", 18);
    fault("a;a;a;a;a;a;a;a;a;;", 18);
    fault("a;a;a;a;a;a;a;a;a1", 18);
    fault("A;", 0);
    fault("a1;" + (char) 0xE1, 3);
    fault("a" + (char) 0xB1, 1);
  }

  private static void lay() {
    WalkersSay x = laid("a1;b;");
    due("count(1)", x.count(1), 2);
    due("THE TEXT stays", x.count(0), 5);
    x.doubt(1);
    x.write(1, '1');
    due("lay with a fault", x.lay(), NO);
    due("nothing changes", x.count(1), 2);
    due("nothing changes", x.count(3), 1);
    due("corners as before", x.corners(), 1);
    put(x, "a1;b;");
    due("lay again", x.lay(), 2);
    due("none is doubted then", x.count(3), 0);
    due("corners anew", x.corners(), 3);
    x.wipe();
    due("lay of nothing", x.lay(), 0);
    due("corners of nothing", x.corners(), 0);
  }

  private static void doubt() {
    WalkersSay x = laid("a1;b;c;");
    due("doubt(5)", x.doubt(5), 0);
    due("doubt(8)", x.doubt(8), BAD);
    due("doubt(-1)", x.doubt(-1), BAD);
    due("doubt(7)", x.doubt(7), 5);
    due("corners of none", x.corners(), 0);
    due("doubt(0)", x.doubt(0), 7);
    due("corners of all", x.corners(), 4);
    WalkersSay nine = laid("a;a;a;a;a;a;a;a;a;");
    due("doubt(511)", nine.doubt(511), 0);
    due("doubt(512)", nine.doubt(512), BAD);
    due("doubt(0)", nine.doubt(0), 511);
  }

  private static void bars() {
    why("a;", NONE);
    // two unlike things at one corner
    why("ab0;", 0);
    why("a;b;ab3;", 2);
    why("aa0;", NONE);
    why("a1b0;a1b0;", NONE);
    why("a1b0;a1b1;", NONE);
    why("a1b0;a1c5;", 1);
    // the two ends of a lane are one
    why("a0=0;", 0);
    why("a1a1;", 0);
    why("a1a2;", NONE);
    why("a1a0;", NONE);
    // a turning leads to the end by which one came
    why("a#33;", 0);
    why("a#35;", NONE);
    why("a#24;", 0);
    why("a#11;", 0);
    why("aa11;", 0);
    why("aa31;", NONE);
    why("aa33;", 0);
    why("a5;aa5;", 1);
    why("a4;aa2;", 1);
    // a corner of # has more or fewer ends
    why("a#3#3;", NONE);
    why("a#2#4;", 0);
    why("a#4#2;", 0);
    why("a#6;aa3;", 1);
    why("a#2;b;a#3;", 2);
    // a corner of ! is that one
    why("a!0;", 0);
    why("a1!0;", NONE);
    why("a1!0a0;", 0);
    why("a1!0;a1a0;", 1);
    why("a1!0a2;", 0);
    why("a10!0;", 0);
    // what follows from making one: back by the lane by which one came
    why("a10a1;", NONE);
    why("a10!1;", NONE);
    // the lane from the same end leads to the same end, so the things meet
    why("a1b0;a1=1b1#1;", NONE);
    why("a1#31=0;a2#31=0;", 1);
    WalkersSay x = laid("ab0;b;a1b0;a1c0;");
    due("why of all", x.why(), 0);
    x.doubt(1);
    due("why without 0", x.why(), 3);
    x.doubt(5);
    due("why without 0, 2", x.why(), NONE);
    x.doubt(15);
    due("why of none", x.why(), NONE);
  }

  private static void fewest() {
    due("fewest, two alike", laid("a1b0;a1c0;").fewest(), 1);
    due("fewest, one by itself", laid("a;b;ab0;").fewest(), 4);
    due("fewest, none", laid("a1;b1;").fewest(), 0);
    due("fewest, all", laid("a!0;b!0;").fewest(), 3);
    due("fewest, the one in common", laid("a1b0;a2c0;a1d0a2d0;").fewest(), 4);
    due("fewest, two pairs", laid("a1b0;a1c0;d1e0;d1f0;").fewest(), 5);
    due("fewest, a row of clashes", laid("a1b0;b0c0;a1d0;c0a3;").fewest(), 3);
    // the last two make a's 1st end its 5th, so that it goes round in 4: no two of the three clash
    due("fewest, by threes", laid("a4;a1b0;b0a5;").fewest(), 1);
    why("a4;a1b0;b0a5;", 2);
    WalkersSay x = laid("a1b0;a1c0;");
    x.doubt(1);
    due("fewest, whichever are doubted", x.fewest(), 1);
    x.doubt(3);
    due("fewest, whichever are doubted", x.fewest(), 1);
    due("fewest leaves the town", x.corners(), 0);
  }

  private static String times(String s, int n) { return s.repeat(n); }

  private static void corners() {
    due("corners of a;", laid("a;").corners(), 1);
    due("corners of a;a;", laid("a;a;").corners(), 1);
    due("corners of a0;", laid("a0;").corners(), 2);
    due("corners of a00;", laid("a00;").corners(), 2);
    due("lanes nobody took lead to none", laid("a5;").corners(), 2);
    due("corners told twice", laid("a12;a12;").corners(), 3);
    due("corners NO", laid("a!0;").corners(), NO);
    due("20 corners", laid("a" + times("1", 19) + ";").corners(), 20);
    due("21 corners", laid("a" + times("1", 20) + ";").corners(), FULL);
    due("21 corners that bar", laid("a" + times("1", 20) + "!0!1;b!0;").corners(), NO);
    String most = "a" + times("5#60", 17) + "5#10";
    due("200 ends", laid(most + "5#10;").corners(), 20);
    due("201 ends", laid(most + "5#20;").corners(), FULL);
    due("200 ends: open", laid(most + "5#10;").town(1), 200 - 2 * 19);
    due("298 turnings", laid("a" + times("5", 298) + ";").corners(), FULL);
    due("298 turnings, why", laid("a" + times("5", 298) + ";").why(), NONE);
    due("298 turnings, fewest", laid("a" + times("5", 298) + ";").fewest(), 0);
    due("298 times there and back", laid("a" + times("0", 298) + ";").corners(), 2);
    WalkersSay x = laid("a1;" + "b" + times("1", 20) + ";");
    due("FULL with all", x.corners(), FULL);
    x.doubt(2);
    due("not without the long one", x.corners(), 2);
  }

  private static void corner() {
    WalkersSay x = laid("b1a0;a12b0;a1=0;");
    // b1 leads to a, whose first end is its other end: a1 and b's are numbered by what comes first
    due("why", x.why(), 2);
    x.doubt(4);
    due("corner(0, 0)", x.corner(0, 0), 0);
    due("corner(0, 1)", x.corner(0, 1), 1);
    due("corner(1, 0)", x.corner(1, 0), 1);
    due("corner(1, 1)", x.corner(1, 1), 2);
    due("corner(1, 2)", x.corner(1, 2), 0);
    due("corner(1, 3)", x.corner(1, 3), BAD);
    due("corner(1, -1)", x.corner(1, -1), BAD);
    due("corner(2, 0), doubted", x.corner(2, 0), BAD);
    due("corner(3, 0)", x.corner(3, 0), BAD);
    due("corner(-1, 0)", x.corner(-1, 0), BAD);
    x.doubt(1 | 4);
    due("numbers anew", x.corner(1, 0), 0);
    x.doubt(2);
    due("NO", x.corner(0, 0), NO);
    due("BAD ahead of NO", x.corner(1, 0), BAD);
    due("BAD ahead of NO", x.corner(0, 2), BAD);
    due("FULL", laid("a" + times("1", 20) + ";").corner(0, 3), FULL);
    due("BAD ahead of FULL", laid("a" + times("1", 20) + ";").corner(0, 21), BAD);
  }

  private static void about() {
    WalkersSay x = laid("a3#420;b#1;ha4;");
    due("it bars", x.about(0, 0), NO);
    x.doubt(4);
    due("ends told on the way count", x.about(0, 0), 4);
    due("a: not all known", x.about(0, 1), 0);
    due("a: thing", x.about(0, 2), 0);
    due("a: open", x.about(0, 3), 3);
    due("#4: lanes", x.about(1, 0), 4);
    due("#4: all known", x.about(1, 1), 1);
    due("#4: no thing", x.about(1, 2), NONE);
    due("#4: open", x.about(1, 3), 2);
    due("leaf: lanes", x.about(2, 0), 1);
    due("leaf: all known", x.about(2, 1), 0);
    due("leaf: open", x.about(2, 3), 0);
    due("b: lanes", x.about(3, 0), 1);
    due("b: all known", x.about(3, 1), 1);
    due("b: thing", x.about(3, 2), 1);
    due("b: open", x.about(3, 3), 1);
    due("about(4, 0)", x.about(4, 0), BAD);
    due("about(-1, 0)", x.about(-1, 0), BAD);
    due("about(0, 4)", x.about(0, 4), BAD);
    due("about(0, -1)", x.about(0, -1), BAD);
    WalkersSay last = laid("ah5;");
    due("h and a", last.about(0, 0), NO);
    due("h5 by itself", laid("h1h5;").about(0, 0), 6);
    due("h is 7", laid("h1h5;").about(0, 2), 7);
    due("round by what follows", laid("a4a3;a3=0;").about(0, 0), NO);
    due("round by a thing told twice", laid("a4;aa3;").about(0, 1), 1);
    due("round by a thing told twice", laid("a4;aa3;").about(0, 0), 3);
    due("FULL", laid("a" + times("1", 20) + ";").about(0, 0), FULL);
    due("FULL ahead of a corner's BAD", laid("a" + times("1", 20) + ";").about(50, 0), FULL);
    due("BAD of what ahead of FULL", laid("a" + times("1", 20) + ";").about(0, 4), BAD);
  }

  private static void town() {
    WalkersSay x = laid("a12;b1;c;");
    due("lanes", x.town(0), 3);
    due("open", x.town(1), 1 + 1 + 1 + 1);
    due("flat", x.town(2), 1);
    due("parts", x.town(3), 3);
    due("town(4)", x.town(4), BAD);
    due("town(-1)", x.town(-1), BAD);
    x.doubt(1);
    due("lanes without the first", x.town(0), 1);
    due("parts without the first", x.town(3), 2);
    WalkersSay loop = laid("a1a2;");
    due("a loop: corners", loop.corners(), 1);
    due("a loop: lanes", loop.town(0), 1);
    due("a loop: known lanes", loop.about(0, 0), 3);
    due("a loop: open", loop.town(1), 1);
    due("a loop: parts", loop.town(3), 1);
    due("a loop: flat", loop.town(2), 1);
    due("parts joined by a third walk", laid("a1;b1;a2b2;").town(3), 1);
    due("NO", laid("a!0;").town(0), NO);
    due("FULL", laid("a" + times("1", 20) + ";").town(3), FULL);
    due("BAD ahead of NO", laid("a!0;").town(4), BAD);
  }

  private static void flat() {
    due("loops that cross", laid("a#41a3;a0a2;").town(2), 0);
    due("loops side by side", laid("a#41a2;a0a3;").town(2), 1);
    due("loops that cross, not known round", laid("a1a3;a2a4;").town(2), 0);
    due("loops within one another", laid("a1a4;a2a3;").town(2), 1);
    // three lanes from a to b: flat only if they come in the other order
    due("three lanes in the other order", laid("a#31b2;a2b1;a0b0;").town(2), 1);
    due("three lanes in the same order", laid("a#31b1#3;a2b2;a0b0;").town(2), 0);
    due("one part that is not", laid("a#41a3;a0a2;b1;").town(2), 0);
    due("lanes that nobody took are left out", laid("a1a4;a2a5;b1;c;").town(2), 0);
    due("corners alone", laid("a;b;c;").town(2), 1);
    // a comes round by the first end behind the last: 0-2 and 1-3 cross there, too
    due("the last one's next is the first", laid("a0a2;a1a3;").town(2), 0);
    due("the last one's next is the first", laid("a0a3;a1a2;").town(2), 1);
  }

  private static void may() {
    WalkersSay x = laid("a1!01;b;");
    due("may(0, 0)", x.may(0, 0), 2);
    due("may(3, 3)", x.may(3, 3), 2);
    due("apart", x.may(0, 1), 0);
    due("apart, the other way", x.may(1, 0), 0);
    due("may(0, 2)", x.may(0, 2), 1);
    due("the lane leads back, so what was kept apart meets", x.may(1, 2), 0);
    due("things", x.may(0, 3), 0);
    due("may(1, 3)", x.may(1, 3), 1);
    due("may(0, 4)", x.may(0, 4), BAD);
    due("may(-1, 0)", x.may(-1, 0), BAD);
    due("may(4, 4)", x.may(4, 4), BAD);
    due("#2 and #3 never", laid("a#2;b1#3;").may(0, 2), 0);
    due("#2 and #2", laid("a#2;b1#2;").may(0, 2), 1);
    due("#3 and four told", laid("a#30;b14;").may(0, 3), 1);
    due("#4 and a turning of 4", laid("a#4;b14;").may(0, 2), 0);
    due("#3 and a turning of 4", laid("a#3;b14;").may(0, 2), 1);
    due("what follows bars", laid("a#2;a0b0#1;a1#2c0;").may(0, 2), 0);
    due("the town stays", x.corners(), 4);
    due("NO ahead of a corner's BAD", laid("a!0;").may(-5, 9), NO);
    due("FULL ahead of a corner's BAD", laid("a" + times("1", 20) + ";").may(-5, 9), FULL);
  }

  private static void pairs() {
    WalkersSay x = laid("a1!01;b;");
    due("pairs(-1)", x.pairs(-1), 3);
    due("pairs(0)", x.pairs(0), 2);
    due("pairs(1)", x.pairs(1), 103);
    due("pairs(2)", x.pairs(2), 203);
    due("pairs(3)", x.pairs(3), NONE);
    due("pairs(-2)", x.pairs(-2), BAD);
    due("NO", laid("a!0;").pairs(0), NO);
    due("BAD ahead of NO", laid("a!0;").pairs(-2), BAD);
    due("FULL ahead of NONE", laid("a" + times("1", 20) + ";").pairs(900), FULL);
    due("20 corners", laid("a" + times("1", 19) + ";").pairs(-1), 190);
    due("20 corners, the last", laid("a" + times("1", 19) + ";").pairs(189), 1819);
  }

  private static void smallest() {
    due("one", laid("a;").smallest(), 1);
    due("things", laid("a;b;c;d;").smallest(), 4);
    due("five", laid("a;b;c;d;e;").smallest(), NO);
    due("a ring of one", laid("a#10#1;").smallest(), 2);
    due("apart", laid("a1!01!0!1;").smallest(), 3);
    due("apart but for the first", laid("a1!01!1;").smallest(), 2);
    due("again and again", laid("a111;").smallest(), 1);
    due("24 ends", laid("a5#65#65#6;").smallest(), 1);
    due("24 ends still", laid("a5#65#65#6;a2a3;").smallest() > 0 ? 1 : 0, 1);
    due("25 ends, corners", laid("a5#65#65#6;a501a3;").corners(), 4);
    due("25 ends", laid("a5#65#65#6;a501a3;").smallest(), NO);
    due("five corners", laid("a5#65#65#6;bb0;").smallest(), NO);
    due("NO", laid("a!0;").smallest(), NO);
    due("NO comes ahead of FULL", laid("a" + times("1", 20) + ";").smallest(), NO);
    WalkersSay x = laid("a1;b;c;d;e;");
    due("five and more", x.smallest(), NO);
    x.doubt(28);
    due("without three", x.smallest(), 2);
    due("the town stays", x.corners(), 3);
  }

  private static void way() {
    WalkersSay x = laid("a1b0;a2b1;b31;c1;");
    due("to itself", x.way(0, 0, -1), 0);
    due("to itself, the first", x.way(0, 0, 0), NONE);
    due("the lower turning", x.way(0, 1, -1), 1);
    due("the lower turning", x.way(0, 1, 0), 1);
    due("not so many", x.way(0, 1, 1), NONE);
    due("further", x.way(0, 2, -1), 2);
    due("further, 0", x.way(0, 2, 0), 1);
    due("further, 1", x.way(0, 2, 1), 3);
    due("further, 2", x.way(0, 2, 2), NONE);
    due("from b", x.way(1, 0, -1), 1);
    due("from b, 0", x.way(1, 0, 0), 1);
    due("another part", x.way(0, 4, -1), NONE);
    due("not told", x.way(3, 0, -1), NONE);
    due("a corner that is none, ahead of NONE", x.way(3, 9, -1), BAD);
    due("way(8)", x.way(8, 0, -1), BAD);
    due("way(-1)", x.way(-1, 0, -1), BAD);
    due("i = -2", x.way(0, 0, -2), BAD);
    due("no turning back", laid("a0#1;").way(0, 1, -1), NONE);
    due("a turning round is back", laid("a0#1;aa3;").way(0, 1, -1), NONE);
    due("round the other way", laid("a0;a#3;a2b0;").way(0, 2, 0), 2);
    due("NO ahead of a corner's BAD", laid("a!0;").way(0, 9, 0), NO);
    due("BAD ahead of NO", laid("a!0;").way(8, 0, 0), BAD);
    due("FULL", laid("a" + times("1", 20) + ";").way(7, 3, 0), FULL);
    WalkersSay far = laid("a" + times("1", 19) + ";");
    due("nineteen", far.way(0, 19, -1), 19);
    due("nineteen, the last", far.way(0, 19, 18), 1);
  }

  private static void toldBitsBeyond() {
    due("none of none", new WalkersSay().told(0, 0, 1, 0), BAD);
    for (int n = 0; n <= 12; n++) {
      WalkersSay x = laid("a13#34;b;");
      long ones = 0x111111111111L & (1L << 4 * n) - 1;
      due(n + " turnings fill their bits", x.told(0, n, ones, 0) >= 0 ? 1 : 0, 1);
      for (int bit = 4 * n; bit < 64; bit++) {
        due(n + " turnings and bit " + bit, x.told(0, n, ones | 1L << bit, 0), BAD);
        due(n + " turnings and bit " + bit + ", where", x.told(0, n, ones | 1L << bit, 1), BAD);
      }
    }
    WalkersSay x = laid("a13#34;b;");
    due("v below 0", x.told(0, 1, -15, 1), BAD);
    due("beyond: BAD ahead of NONE", x.told(2, 1, 0x11, 0), BAD);
    due("beyond: BAD ahead of NO", laid("a!0;").told(0, 1, 0x11, 0), BAD);
    due("beyond: BAD ahead of FULL", laid("a" + times("1", 20) + ";").told(0, 1, 0x11, 0), BAD);
  }

  private static void told() {
    WalkersSay x = laid("a13#34;b;");
    due("none", x.told(0, 0, 0, 0), 0);
    due("none, where", x.told(0, 0, 0, 1), 0);
    due("1", x.told(0, 1, 0x1, 0), 1);
    due("1, where", x.told(0, 1, 0x1, 1), 1);
    due("1 3", x.told(0, 2, 0x13, 1), 2);
    due("1 3 4", x.told(0, 3, 0x134, 1), 3);
    due("1 3 1: the same lane", x.told(0, 3, 0x131, 1), 3);
    due("1 3 2: nobody took it", x.told(0, 3, 0x132, 0), 2);
    due("1 3 3: by which one came", x.told(0, 3, 0x133, 0), 2);
    due("1 3 0: back", x.told(0, 3, 0x130, 1), 1);
    due("1 3 0 0", x.told(0, 4, 0x1300, 1), 2);
    due("0: nobody took it", x.told(0, 1, 0x0, 0), 0);
    due("2 1: stays where it is", x.told(0, 2, 0x21, 1), 0);
    due("twelve", x.told(0, 12, 0x100000000000L, 0), 12);
    toldBitsBeyond();
    due("the thing is not told", x.told(2, 1, 1, 0), NONE);
    due("b", x.told(1, 0, 0, 1), 4);
    due("thirteen", x.told(0, 13, 0, 0), BAD);
    due("n = -1", x.told(0, -1, 0, 0), BAD);
    due("turning 6", x.told(0, 2, 0x16, 0), BAD);
    due("turning 15 first", x.told(0, 2, 0xF1, 0), BAD);
    due("what = 2", x.told(0, 1, 1, 2), BAD);
    due("what = -1", x.told(0, 1, 1, -1), BAD);
    due("thing 8", x.told(8, 1, 1, 0), BAD);
    due("thing -1", x.told(-1, 1, 1, 0), BAD);
    due("BAD ahead of NONE", x.told(2, 1, 7, 0), BAD);
    due("NO ahead of NONE", laid("a!0;").told(2, 1, 1, 0), NO);
    due("BAD ahead of NO", laid("a!0;").told(0, 1, 7, 0), BAD);
    due("FULL ahead of NONE", laid("a" + times("1", 20) + ";").told(2, 1, 1, 0), FULL);
    x.doubt(1);
    due("not told when doubted", x.told(0, 0, 0, 0), NONE);
  }

  private static void keepAndBack() {
    WalkersSay x = laid("a1;b;");
    x.doubt(2);
    due("keep", x.keep(), 1);
    put(x, "c;c1;d;");
    x.lay();
    x.doubt(1);
    due("keep", x.keep(), 2);
    due("keep", x.keep(), FULL);
    put(x, "a!0;");
    x.lay();
    due("fewest", x.fewest(), 1);
    due("back", x.back(), 1);
    due("as kept last", x.count(1), 3);
    due("as kept last", x.doubt(1), 1);
    due("as kept last", x.corners(), 3);
    due("as kept last", x.fewest(), 0);
    due("THE TEXT stays", x.count(0), 4);
    due("back", x.back(), 0);
    due("as kept first", x.count(2), 1);
    due("as kept first", x.count(3), 1);
    due("as kept first", x.corners(), 2);
    due("back", x.back(), NO);
    due("nothing changes", x.count(3), 1);
    due("keep again", x.keep(), 1);
  }

  private static void count() {
    WalkersSay x = laid("a10#2=0;b5c5!1;");
    due("bytes", x.count(0), 15);
    due("walks", x.count(1), 2);
    due("turnings", x.count(2), 3);
    x.doubt(1);
    due("turnings of all, doubted too", x.count(2), 3);
    due("doubted", x.count(3), 1);
    x.keep();
    due("kept", x.count(4), 1);
    x.wipe();
    due("bytes then", x.count(0), 0);
    due("walks then", x.count(1), 2);
    due("count(5)", x.count(5), BAD);
    due("count(-1)", x.count(-1), BAD);
  }

  private static void whatComesFirst() {
    WalkersSay barred = laid("a!0;");
    due("about: BAD of what", barred.about(7, 9), BAD);
    due("about: NO ahead of a corner's BAD", barred.about(7, 0), NO);
    due("corner: BAD", barred.corner(0, 1), BAD);
    due("corner: NO", barred.corner(0, 0), NO);
    due("way: BAD of i", barred.way(0, 0, -2), BAD);
    due("told: NO", barred.told(0, 1, 1, 1), NO);
    due("keep in a town that bars", barred.keep(), 1);
    due("back in a town that bars", barred.back(), 0);
  }

  /** No argument in any state makes a call throw, and a call that is refused changes nothing. */
  private static void extremes() {
    int[] odd = {Integer.MIN_VALUE, -2, -1, 0, 1, 7, 8, 19, 20, 200, 300, Integer.MAX_VALUE};
    String[] texts = {"", "a;", "a!0;", "a1#31=0;", "a" + times("1", 20) + ";", "a" + times("5#60", 18) + ";",
        "a" + times("5", 298) + ";", "ab5" + times("#6", 148) + ";", "a1b5;a2c5;a3d5;a4e5;b1f5;c1g5;d1h5;e1;f1;"};
    for (String text : texts) {
      WalkersSay x = laid(text);
      int before = x.count(1) + 100 * x.count(2) + 100000 * x.count(3);
      int corners = x.corners();
      for (int p : odd) {
        for (int q : odd) {
          x.corner(p, q);
          x.about(p, q);
          x.may(p, q);
          for (int r : odd) {
            x.way(p, q, r);
            x.told(p, q, (long) r << 17 | q, r);
            x.told(0, q, 0x111111111111L, r);
          }
        }
        x.town(p);
        x.pairs(p);
        x.count(p);
      }
      due("nothing changes by asking", x.count(1) + 100 * x.count(2) + 100000 * x.count(3), before);
      due("corners after asking", x.corners(), corners);
      x.smallest();
      x.fewest();
      due("corners after fewest", x.corners(), corners);
    }
  }
}
