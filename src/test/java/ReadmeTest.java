import java.lang.reflect.Method;
import java.nio.file.Files;
import java.nio.file.Path;
import java.util.Set;
import java.util.TreeSet;
import java.util.regex.Matcher;
import java.util.regex.Pattern;

/** Each call that README.md shows has the answer that stands behind it there. Run from the project's folder. */
public final class ReadmeTest {
  private static final String NEW = "CutListDesk desk = new CutListDesk();";
  private static final Pattern CALL = Pattern.compile("desk\\.(\\w+)\\(([-\\d, ]*)\\); +// (-?\\d+)(: .*)?");
  private static final Due due = new Due();

  public static void main(String[] args) throws Exception {
    CutListDesk desk = null;
    boolean isCode = false;
    Set<String> shown = new TreeSet<>();
    for (String line : Files.readAllLines(Path.of("README.md"))) {
      if (line.startsWith("```")) isCode = line.equals("```java");
      else if (isCode && line.equals(NEW)) desk = new CutListDesk();
      else if (isCode) shown.add(answer(desk, line));
    }
    due.holds("calls of each section are shown: " + shown, shown.size() >= 20);
    due.end();
  }

  private static String answer(CutListDesk desk, String line) throws Exception {
    Matcher call = CALL.matcher(line);
    due.holds("'" + line + "' is a call with its answer", call.matches());
    if (!call.matches()) return "";
    String[] given = call.group(2).isEmpty() ? new String[0] : call.group(2).split(", ");
    Object[] numbers = new Object[given.length];
    for (int i = 0; i < given.length; i++) numbers[i] = Integer.valueOf(given[i]);
    for (Method m : CutListDesk.class.getMethods()) {
      if (!m.getName().equals(call.group(1)) || m.getParameterCount() != given.length) continue;
      due.is(line, ((Number) m.invoke(desk, numbers)).longValue(), Long.parseLong(call.group(3)));
      return m.getName();
    }
    due.holds("'" + line + "' is a call of the class", false);
    return "";
  }
}
