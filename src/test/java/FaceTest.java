import java.lang.reflect.Constructor;
import java.lang.reflect.Executable;
import java.lang.reflect.Field;
import java.lang.reflect.Method;
import java.lang.reflect.Modifier;
import java.nio.file.Files;
import java.nio.file.Path;
import java.util.Set;
import java.util.TreeSet;
import java.util.regex.Matcher;
import java.util.regex.Pattern;

/** The class has just the face that the document shows, and rule 1 of the language holds. */
public final class FaceTest {
  private static final Path SOURCE = Path.of("src/main/java/RemainderYard.java");
  private static final Check check = new Check("FaceTest");

  public static void main(String[] args) throws Exception {
    Set<String> due = new TreeSet<>();
    boolean inside = false;
    Path document = Path.of(System.getProperty("shared", "../shared"), "DOC.md");
    for (String line : Files.readAllLines(document)) {
      inside = line.startsWith("```java") || inside && !line.startsWith("```");
      if (inside && line.startsWith("    public ")) {
        int end = line.indexOf(')');
        due.add(line.substring(0, end).trim().replaceAll("(\\(| )(\\w+) \\w+(?=,|$)", "$1$2")
            + line.substring(end));
      }
    }
    check.same("how many the document shows", due.size(), 47);
    Set<String> got = new TreeSet<>();
    Set<String> names = new TreeSet<>();
    for (Constructor<?> constructor : RemainderYard.class.getDeclaredConstructors()) {
      got.add(shown(constructor, "RemainderYard"));
    }
    for (Method method : RemainderYard.class.getDeclaredMethods()) {
      if (!Modifier.isPrivate(method.getModifiers())) {
        got.add(shown(method, method.getReturnType().getName() + " " + method.getName()));
        names.add(method.getName());
      }
    }
    check.same("the face", got, due);
    check.same("public and final", RemainderYard.class.getModifiers(),
        Modifier.PUBLIC | Modifier.FINAL);
    headings(Files.readString(document), Files.readString(SOURCE));
    membersOf(RemainderYard.class, names);
    for (Class<?> inner : RemainderYard.class.getDeclaredClasses()) {
      membersOf(inner, names);
      check.same(inner + " is static", Modifier.isStatic(inner.getModifiers()), true);
    }
    check.end();
  }

  /** The calls stand under the headings that the document tells, in its order. */
  private static void headings(String document, String source) {
    Matcher told = Pattern.compile("Ahead of the calls (.*) the interface says: (---- .*)\\.")
        .matcher(document);
    int many = 0;
    while (told.find()) {
      many++;
      int start = source.indexOf("  // " + told.group(2) + "\n");
      int end = source.indexOf("  // ----", start + 1);
      check.same("the heading is there: " + told.group(2), start >= 0 && end > start, true);
      if (start >= 0 && end > start) {
        StringBuilder calls = new StringBuilder();
        Matcher call = Pattern.compile("(?m)^ {2}public \\w+ (\\w+)\\(")
            .matcher(source.substring(start, end));
        while (call.find()) {
          calls.append(calls.length() == 0 ? "`" : ", `").append(call.group(1)).append('`');
        }
        check.same("the calls under " + told.group(2), calls.toString(), told.group(1));
      }
    }
    check.same("how many headings the document tells", many, 10);
  }

  private static String shown(Executable executable, String start) {
    StringBuilder text = new StringBuilder("public ").append(start).append('(');
    for (Class<?> type : executable.getParameterTypes()) {
      text.append(text.charAt(text.length() - 1) == '(' ? "" : ", ").append(type.getName());
    }
    text.append(')');
    for (Class<?> type : executable.getExceptionTypes()) {
      text.append(text.charAt(text.length() - 1) == ')' ? " throws " : ", ")
          .append(type.getSimpleName());
    }
    String modifiers = Modifier.toString(executable.getModifiers());
    return text.append(';').toString().replaceFirst("public", modifiers);
  }

  private static void membersOf(Class<?> type, Set<String> names) {
    int fields = 0;
    for (Field field : type.getDeclaredFields()) {
      boolean isStatic = Modifier.isStatic(field.getModifiers());
      check.same(field + " is private", Modifier.isPrivate(field.getModifiers()), true);
      if (isStatic) {
        check.same(field + " is final", Modifier.isFinal(field.getModifiers()), true);
      } else {
        fields++;
      }
    }
    check.same(type + " has some twenty fields at most", fields <= 20, true);
    for (Method method : type.getDeclaredMethods()) {
      boolean isOpen = Modifier.isPublic(method.getModifiers());
      check.same(method + " bears no public name", isOpen || !names.contains(method.getName()), true);
      check.same(method + " has seven parameters at most", method.getParameterCount() <= 7, true);
    }
  }
}
