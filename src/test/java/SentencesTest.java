import java.lang.reflect.Method;
import java.nio.file.Files;
import java.nio.file.Path;
import java.util.ArrayList;
import java.util.Arrays;
import java.util.List;
import java.util.regex.Matcher;
import java.util.regex.Pattern;

/** SENTENCES.md has each sentence of the document, and the tests that it names are there. */
public final class SentencesTest {
  private static final Pattern TEST = Pattern.compile("`(\\w+)\\.(\\w+)`");
  private static final Check check = new Check("SentencesTest");

  public static void main(String[] args) throws Exception {
    Path document = Path.of(System.getProperty("shared", "../shared"), "DOC.md");
    List<String> due = sentences(Files.readString(document));
    List<String> told = new ArrayList<>();
    int named = 0;
    String heading = "";
    for (String line : Files.readAllLines(Path.of("SENTENCES.md"))) {
      heading = line.startsWith("## ") ? line.substring(3) : heading;
      String[] cells = line.split(" \\| |^\\| | \\|$");
      if (cells.length == 3 && !cells[1].matches("sentence|---")) {
        told.add(heading + ": " + cells[1]);
        named += testsAreThere(cells[2]);
      }
    }
    for (int i = 0; i < Math.max(due.size(), told.size()); i++) {
      check.same("sentence " + i, i < told.size() ? told.get(i) : "none",
          i < due.size() ? due.get(i) : "none");
    }
    check.same("tests are named: " + named, named > due.size(), true);
    check.end();
  }

  private static int testsAreThere(String cell) throws Exception {
    Matcher test = TEST.matcher(cell);
    int named = 0;
    while (test.find()) {
      named++;
      boolean there = Arrays.stream(Class.forName(test.group(1)).getDeclaredMethods())
          .map(Method::getName).anyMatch(test.group(2)::equals);
      check.same(test.group() + " is there", there, true);
    }
    return named;
  }

  /** The sentences of the Terms, and the lines of the promises without what the face says. */
  private static List<String> sentences(String document) {
    List<String> sentences = new ArrayList<>();
    for (String section : document.split("(?m)^## ")) {
      int end = section.indexOf('\n');
      String heading = section.substring(0, end);
      String text = section.substring(end).trim();
      if (heading.startsWith("Promise ")) {
        for (String line : text.split("\n+")) {
          sentences.add(heading + ": " + line.replaceFirst("^- |^`.*?`: ", ""));
        }
      } else if (heading.matches("Terms|Not promised|What it is")) {
        for (String sentence : text.replace("<p>", "").split("\n\n+|(?<=\\.)\\s+(?=[A-Z])")) {
          // a heading inside of the Terms has two words at most
          if (sentence.split("\\s+").length > 2) {
            sentences.add(heading + ": " + sentence.replaceAll("\\s+", " ").trim());
          }
        }
      }
    }
    return sentences;
  }
}
