import java.lang.reflect.Constructor;
import java.lang.reflect.Field;
import java.lang.reflect.Method;
import java.lang.reflect.Modifier;
import java.nio.charset.StandardCharsets;
import java.nio.file.Files;
import java.nio.file.Path;
import java.util.Arrays;
import java.util.HashSet;
import java.util.List;
import java.util.Set;
import java.util.TreeSet;
import java.util.regex.Matcher;
import java.util.regex.Pattern;

/** The face is the document's, and the source keeps to what LANGUAGE.md leaves. */
public final class LanguageTests {
  private static int passed = 0, failed = 0;

  private static void holds(String what, boolean so) {
    if (so) { passed++; return; }
    failed++;
    System.out.println("not so: " + what);
  }

  public static void main(String[] args) throws Exception {
    face();
    classesInside();
    source(args.length > 0 ? args[0] : "src/main/java/WalkersSay.java");
    room();
    System.out.println("LanguageTests:");
    System.out.println(passed + " passed, " + failed + " failed");
    if (failed > 0) System.exit(1);
  }

  private static final List<String> FACE = List.of("write(int,long)", "wipe()", "fault()", "lay()", "doubt(int)", "why()",
      "fewest()", "corners()", "corner(int,int)", "about(int,int)", "town(int)", "may(int,int)", "pairs(int)", "smallest()",
      "way(int,int,int)", "told(int,int,long,int)", "keep()", "back()", "count(int)");

  private static String signature(Method m) {
    StringBuilder s = new StringBuilder(m.getName()).append('(');
    for (Class<?> type : m.getParameterTypes()) s.append(s.charAt(s.length() - 1) == '(' ? "" : ",").append(type.getName());
    return s.append(')').toString();
  }

  private static void face() {
    holds("the class is public and final", Modifier.isPublic(WalkersSay.class.getModifiers())
        && Modifier.isFinal(WalkersSay.class.getModifiers()));
    Set<String> seen = new TreeSet<>();
    for (Method m : WalkersSay.class.getDeclaredMethods()) {
      if (Modifier.isPrivate(m.getModifiers())) continue;
      holds(m.getName() + " is public and answers an int",
          Modifier.isPublic(m.getModifiers()) && !Modifier.isStatic(m.getModifiers()) && m.getReturnType() == int.class);
      seen.add(signature(m));
    }
    holds("the methods are the document's: " + seen, seen.equals(new TreeSet<>(FACE)));
    Set<String> constants = new TreeSet<>();
    for (Field f : WalkersSay.class.getDeclaredFields()) {
      if (!Modifier.isPrivate(f.getModifiers())) constants.add(f.getName());
      if (Modifier.isStatic(f.getModifiers())) holds(f.getName() + " is final", Modifier.isFinal(f.getModifiers()));
    }
    holds("the constants are the document's", constants.equals(new TreeSet<>(List.of("BAD", "NO", "FULL", "NONE"))));
    Constructor<?>[] made = WalkersSay.class.getDeclaredConstructors();
    holds("one constructor", made.length == 1 && made[0].getParameterCount() == 0 && Modifier.isPublic(made[0].getModifiers()));
  }

  private static void classesInside() {
    Set<String> names = new HashSet<>();
    for (String face : FACE) names.add(face.substring(0, face.indexOf('(')));
    Class<?>[] inside = WalkersSay.class.getDeclaredClasses();
    holds("at most twelve classes", inside.length < 12);
    for (Class<?> c : inside) {
      holds(c + " is static", Modifier.isStatic(c.getModifiers()));
      holds(c + " has some twenty fields",
          Arrays.stream(c.getDeclaredFields()).filter(f -> !Modifier.isStatic(f.getModifiers())).count() <= 20);
      for (Method m : c.getDeclaredMethods()) holds(m + " bears no name of the face", !names.contains(m.getName()));
    }
    for (Method m : WalkersSay.class.getDeclaredMethods()) {
      if (Modifier.isPrivate(m.getModifiers())) holds(m + " bears no name of the face", !names.contains(m.getName()));
      holds(m + " takes seven at most", m.getParameterCount() <= 7);
    }
  }

  private static void source(String path) throws Exception {
    String text = new String(Files.readAllBytes(Path.of(path)), StandardCharsets.ISO_8859_1);
    String code = text.replaceAll("(?s)/\\*.*?\\*/", "").replaceAll("//[^\n]*", "");
    for (String word : List.of("throw", "try", "catch", "finally", "synchronized", "assert", "package", "protected", "var")) {
      holds("no " + word, !Pattern.compile("\\b" + word + "\\b").matcher(code).find());
    }
    for (String sign : List.of("->", "::", "Exact", "System.out", "Random", "nanoTime", "currentTime", "\"")) {
      holds("no " + sign, !code.contains(sign));
    }
    Matcher imports = Pattern.compile("import ([\\w.*]+);").matcher(code);
    while (imports.find()) holds(imports.group(1) + " may be imported",
        List.of("java.util.Arrays", "java.util.ArrayList", "java.util.List").contains(imports.group(1)));
    String[] lines = text.split("\n");
    int open = -1;
    for (int i = 0; i < lines.length; i++) {
      if (lines[i].matches(" {4,8}[\\w<].*\\) \\{")) open = i;
      if (lines[i].matches(" {4}(    )?\\}") && open >= 0) {
        holds("the method at line " + (open + 1) + " has at most sixty lines", i - open < 60);
        open = -1;
      }
    }
  }

  /** Calls make no objects: all rows are made with the object, and that has few. */
  private static void room() {
    com.sun.management.ThreadMXBean bean = (com.sun.management.ThreadMXBean) java.lang.management.ManagementFactory.getThreadMXBean();
    long id = Thread.currentThread().getId();
    useOnce(new WalkersSay());
    long before = bean.getThreadAllocatedBytes(id);
    WalkersSay x = new WalkersSay();
    long made = bean.getThreadAllocatedBytes(id);
    useOnce(x);
    long used = bean.getThreadAllocatedBytes(id);
    holds("an object has some 30,000 elements at most: " + (made - before), made - before < 30_000 * 4);
    holds("calls make nothing: " + (used - made), used - made < 2_000);
  }

  private static void useOnce(WalkersSay x) {
    x.wipe();
    x.write(8, 0x6131233331613035L);
    x.write(8, 0x3b6135323b623132L);
    x.write(2, 0x333bL);
    x.fault();
    x.lay();
    x.why();
    x.fewest();
    for (int i = -1; i < 4; i++) {
      x.doubt(i);
      x.corners();
      x.corner(i, i);
      x.about(i, i);
      x.town(i);
      x.may(0, i);
      x.pairs(i);
      x.smallest();
      x.way(0, i, -1);
      x.told(0, 2, 0x11, 1);
      x.count(i);
      x.keep();
    }
    x.back();
  }
}
