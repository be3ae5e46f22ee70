import java.nio.file.Files;
import java.nio.file.Path;
import java.util.List;
import java.util.Set;
import java.util.regex.Matcher;
import java.util.regex.Pattern;

/** What can be seen of the rules of ../shared/LANGUAGE.md in the text of the program. */
public final class LanguageTest {
  private static final Check check = new Check("LanguageTest");
  private static final Path SOURCE = Path.of("src/main/java/RemainderYard.java");
  private static final Set<String> THROWN = Set.of("IllegalStateException",
      "IllegalArgumentException", "IndexOutOfBoundsException", "ArithmeticException",
      "UnsupportedOperationException", "NoSuchElementException",
      "RuntimeException");
  private static final String[] OUTSIDE = {
    "package", "->", "::", "synchronized", "assert", "finally", "try", "catch", "instanceof",
    "double", "float", "interface", "abstract", "protected", "System", "Exact", "Object", "@",
    "equals", "hashCode", "toString", "static \\{", "\\?\\?", "\" \\+", "\\+ \"", "var", "record",
    "BigInteger", "java\\.(?!util\\.NoSuchElementException;)", "while \\(true\\)", "for \\(;;"
  };

  public static void main(String[] args) throws Exception {
    String all = Files.readString(SOURCE);
    for (int i = 0; i < all.length(); i++) {
      if (all.charAt(i) > 126) {
        check.same("a sign above 126 at " + i, all.charAt(i), ' ');
      }
    }
    String code = all.replaceAll("(?s)/\\*.*?\\*/", "").replaceAll("//[^\n]*", "");
    for (String word : OUTSIDE) {
      String pattern = Character.isLetter(word.charAt(0)) ? "\\b" + word : word;
      Matcher found = Pattern.compile(pattern).matcher(code);
      check.same("outside the language: " + word, found.find() ? found.group() : "", "");
    }
    Matcher thrown = Pattern.compile("throw new (\\w+)\\((\"[^\"]*\")?\\);").matcher(code);
    int many = 0;
    while (thrown.find()) {
      many++;
      // promise 13 and the face want this one of read, beyond the list of rule 6: see NOTES.md
      boolean promised = thrown.group(1).equals("NumberFormatException");
      check.same("it may be thrown: " + thrown.group(1),
          promised || THROWN.contains(thrown.group(1)), true);
    }
    check.same("each throw is a plain one", many, code.split("\\bthrow\\b", -1).length - 1);
    check.same("NumberFormatException in the face of read and in its throw, nowhere else",
        namesIn(code) + " " + namesIn(bodyOfRead(code)), "2 2");
    int classes = code.split("\\bclass \\w+ \\{", -1).length - 1;
    check.same("some twelve classes at most", classes <= 12, true);
    methodsAreShort(List.of(code.split("\n")));
    newIsInFieldsOrThrown(List.of(code.split("\n")));
    check.end();
  }

  private static int namesIn(String code) {
    return code.split("\\bNumberFormatException\\b", -1).length - 1;
  }

  private static String bodyOfRead(String code) {
    Matcher found = Pattern.compile("(?s) {2}public boolean read\\(.*?\n {2}\\}").matcher(code);
    return found.find() ? found.group() : "";
  }

  private static void methodsAreShort(List<String> lines) {
    int start = -1;
    for (int i = 0; i < lines.size(); i++) {
      String line = lines.get(i);
      if (line.matches("( {2}| {4})\\w.*\\) .*\\{|( {2}| {4})\\w.*\\) \\{")
          && !line.contains(" class ")) {
        start = i;
      }
      if (start >= 0 && line.matches(" {2}\\}| {4}\\}") && i - start > 60) {
        check.same("a long method at line " + start, i - start, 60);
      }
    }
    check.same("methods were seen", start > 0, true);
  }

  private static void newIsInFieldsOrThrown(List<String> lines) {
    for (String line : lines) {
      if (line.matches(".*\\bnew\\b.*")) {
        boolean field = line.matches(" +private (final )?[\\w\\[\\]]+ \\w+ = new .*;");
        check.same("new: " + line.trim(), field || line.contains("throw new"), true);
      }
    }
  }
}
