import java.lang.reflect.Method;
import java.nio.charset.StandardCharsets;
import java.nio.file.Files;
import java.nio.file.Path;
import java.util.List;
import java.util.Set;
import java.util.TreeSet;
import java.util.regex.Matcher;
import java.util.regex.Pattern;

/** What README.md shows is what the class answers, and it leaves no call of the face out. */
public final class ReadmeTests {
  private static final Checks t = new Checks();
  private static final Pattern CALL = Pattern.compile("x\\.(\\w+)\\((.*)\\);\\s*// (-?\\d+|BAD|NO|FULL|NONE)\\b.*");
  private static final Set<String> shown = new TreeSet<>();
  private static final Set<String> answered = new TreeSet<>();

  public static void main(String[] args) throws Exception {
    List<String> lines = Files.readAllLines(Path.of(args.length > 0 ? args[0] : "README.md"), StandardCharsets.UTF_8);
    examples(lines);
    table(lines);
    t.end("ReadmeTests");
  }

  private static void examples(List<String> lines) throws Exception {
    WalkersSay x = null;
    boolean inside = false;
    for (String line : lines) {
      if (line.startsWith("```")) inside = line.equals("```java");
      else if (!inside) continue;
      else if (line.equals("WalkersSay x = new WalkersSay();")) x = new WalkersSay();
      else call(x, line);
    }
    t.holds("each answer below 0 is shown: " + answered, answered.containsAll(Set.of("BAD", "NO", "FULL", "NONE")));
  }

  private static void call(WalkersSay x, String line) throws Exception {
    Matcher m = CALL.matcher(line);
    t.holds("a call and its answer: " + line, m.matches());
    if (!m.matches()) return;
    shown.add(m.group(1));
    answered.add(m.group(3));
    t.due(line, ask(x, m.group(1), m.group(2).isEmpty() ? new String[0] : m.group(2).split(", ")), answer(m.group(3)));
  }

  private static long answer(String said) throws Exception {
    return Character.isLetter(said.charAt(0)) ? WalkersSay.class.getField(said).getInt(null) : Long.parseLong(said);
  }

  private static int ask(WalkersSay x, String name, String[] said) throws Exception {
    for (Method method : WalkersSay.class.getMethods()) {
      if (!method.getName().equals(name) || method.getDeclaringClass() != WalkersSay.class) continue;
      Object[] given = new Object[said.length];
      for (int i = 0; i < said.length; i++) {
        long v = number(said[i]);
        given[i] = method.getParameterTypes()[i] == long.class ? (Object) v : (Object) (int) v;
      }
      return (int) method.invoke(x, given);
    }
    return Integer.MIN_VALUE;
  }

  private static long number(String said) {
    if (said.startsWith("'")) return said.charAt(1);
    return Long.decode(said.replace("_", "").replace("L", ""));
  }

  /** Each method stands in the table of calls, with as many arguments as it takes. */
  private static void table(List<String> lines) {
    for (Method method : WalkersSay.class.getDeclaredMethods()) {
      if (!java.lang.reflect.Modifier.isPublic(method.getModifiers())) continue;
      Pattern row = Pattern.compile("\\| `" + method.getName() + "\\(([^)]*)\\)` +\\|.*");
      int rows = 0;
      for (String line : lines) {
        Matcher m = row.matcher(line);
        if (!m.matches()) continue;
        rows++;
        t.due("arguments of " + method.getName(), m.group(1).isEmpty() ? 0 : m.group(1).split(", ").length, method.getParameterCount());
      }
      t.due("rows of " + method.getName(), rows, 1);
      t.holds(method.getName() + " is shown in an example", shown.contains(method.getName()));
    }
  }
}
