import java.lang.reflect.InvocationTargetException;
import java.lang.reflect.Method;
import java.nio.file.Files;
import java.nio.file.Path;
import java.util.Arrays;
import java.util.List;
import java.util.regex.Matcher;
import java.util.regex.Pattern;

/**
 * Each call that README.md shows answers what README.md says: all lines of its Java are run, in their
 * order. A line is a new yard, or one call with what is due behind it: its answer, or what it throws,
 * and perhaps words, of which those on the text, the product, a row and its wheels are looked at too.
 */
public final class ReadmeTest {
  private static final Pattern CALL =
      Pattern.compile("(?:(\\w+) \\w+ = )?yard\\.(\\w+)\\((.*)\\); +// ([^:]+)(?:: (.*))?");
  private static final Pattern TEXT = Pattern.compile("the text is (\"(.*?)\"|empty)");
  private static final Pattern ROW = Pattern.compile("row (\\d+) is (?:again )?(\\d+)(?!\\d|/)");
  private static final Pattern PRODUCT = Pattern.compile("the product is (\\d+)");
  private static final Pattern WHEELS = Pattern.compile("row (\\d+) .*?wheels at ([\\d, ]*\\d)");
  private static final Check check = new Check("ReadmeTest");

  private static RemainderYard yard;
  private static int calls;

  public static void main(String[] args) throws Exception {
    boolean inside = false;
    int blocks = 0;
    for (String line : Files.readAllLines(Path.of("README.md"))) {
      if (line.startsWith("```")) {
        inside = line.equals("```java");
        blocks += inside ? 1 : 0;
        yard = null;
      } else if (inside && !line.isBlank()) {
        run(line.trim());
      } else {
        check.same("a call that is shown outside of the Java: " + line,
            line.matches(".*`[^`]*\\w\\([^`)]+\\).*`.*"), false);
      }
    }
    check.same("README.md shows Java, blocks: " + blocks, blocks > 0, true);
    check.same("README.md shows calls: " + calls, calls > 20, true);
    check.end();
  }

  private static void run(String line) throws Exception {
    if (line.equals("RemainderYard yard = new RemainderYard();")) {
      yard = new RemainderYard();
      return;
    }
    Matcher call = CALL.matcher(line);
    boolean understood = call.matches() && yard != null;
    check.same("'" + line + "' is a call with its answer", understood, true);
    if (understood) {
      calls++;
      Method method = method(call.group(2));
      String type = call.group(1) == null ? method.getReturnType().getName() : call.group(1);
      check.same("'" + line + "', its type", type, method.getReturnType().getName());
      check.same("'" + line + "'", answer(method, call.group(3)), call.group(4).trim());
      words(line, call.group(5) == null ? "" : call.group(5));
    }
  }

  private static Method method(String name) {
    return Arrays.stream(RemainderYard.class.getMethods())
        .filter(method -> method.getName().equals(name)).findFirst().orElseThrow();
  }

  private static String answer(Method method, String args) throws Exception {
    String[] given = args.isEmpty() ? new String[0] : args.split(", ");
    Class<?>[] types = method.getParameterTypes();
    check.same(method.getName() + "(" + args + "), how many are given", given.length, types.length);
    Object[] values = new Object[types.length];
    for (int i = 0; i < values.length; i++) {
      values[i] = value(given[i], types[i]);
    }
    return outcome(method, values);
  }

  private static Object value(String given, Class<?> type) {
    if (type == char.class) {
      return given.charAt(1);
    }
    if (type == long.class) {
      return Long.parseLong(given.replace("L", ""));
    }
    return given.startsWith("0b") ? Integer.valueOf(given.substring(2), 2) : Integer.valueOf(given);
  }

  private static String outcome(Method method, Object[] values) throws IllegalAccessException {
    try {
      Object answer = method.invoke(yard, values);
      return answer instanceof Character ? "'" + answer + "'" : answer.toString();
    } catch (InvocationTargetException e) {
      return "throws " + e.getCause().getClass().getSimpleName();
    }
  }

  private static void words(String line, String words) {
    Matcher text = TEXT.matcher(words);
    while (text.find()) {
      check.textIs("'" + line + "'", yard, text.group(2) == null ? "" : text.group(2));
    }
    Matcher row = ROW.matcher(words);
    while (row.find()) {
      check.numberIs("'" + line + "'", yard, Integer.parseInt(row.group(1)), row.group(2));
    }
    Matcher product = PRODUCT.matcher(words);
    while (product.find()) {
      int[] dials = new int[yard.dials()];
      for (int i = 0; i < dials.length; i++) {
        dials[i] = yard.dialAt(i);
      }
      check.same("'" + line + "', the product", Yards.product(dials).toString(), product.group(1));
    }
    Matcher wheels = WHEELS.matcher(words);
    while (wheels.find()) {
      int asked = Integer.parseInt(wheels.group(1));
      String places = Yards.row(yard, asked).replace(" ", ", ");
      check.same("'" + line + "', the wheels of row " + asked, places,
          List.of(wheels.group(2).split(", ")).toString().replaceAll("[\\[\\]]", ""));
    }
  }
}
