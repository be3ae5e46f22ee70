import java.io.IOException;
import java.net.URLClassLoader;
import java.nio.file.Files;
import java.nio.file.Path;
import java.util.ArrayList;
import java.util.Comparator;
import java.util.List;
import java.util.stream.Stream;
import javax.tools.JavaCompiler;
import javax.tools.ToolProvider;

/**
 * Promise 47, each of the things that isSound() checks. The theorem makes them true in each yard that
 * calls can make, so that no call shows whether they are looked at; so each of them is broken here, by
 * itself, in a copy of the program, and isSound() has to see it.
 */
public final class SoundTest {
  /** What is done with a yard of a broken program, ahead of isSound(). */
  private interface Use {
    void on(Object yard) throws Exception;
  }

  private static final Path SOURCE = Path.of("src/main/java/RemainderYard.java");
  private static final Check check = new Check("SoundTest");

  public static void main(String[] args) {
    check.all(SoundTest.class);
  }

  private static Object call(Object yard, String name, Object... args) throws Exception {
    for (java.lang.reflect.Method method : yard.getClass().getMethods()) {
      if (method.getName().equals(name) && method.getParameterCount() == args.length) {
        return method.invoke(yard, args);
      }
    }
    throw new IllegalStateException("no such call: " + name);
  }

  private static void dials(Object yard, int... dials) throws Exception {
    for (int dial : dials) {
      call(yard, "addDial", dial);
    }
  }

  /** In a copy of the program with this change in one place, isSound() is false behind each use. */
  private static void seen(String what, String from, String to, List<Use> uses) throws Exception {
    String program = Files.readString(SOURCE);
    int place = program.indexOf(from);
    boolean once = place >= 0 && program.indexOf(from, place + 1) < 0;
    check.same(what + ": the program has one place to be changed", once, true);
    if (!once) {
      return;
    }
    Path folder = Files.createTempDirectory("sound");
    try {
      Path source = folder.resolve("RemainderYard.java");
      Files.writeString(source, program.replace(from, to));
      check.same(what + ": the copy compiles", built(folder, source), 0);
      try (URLClassLoader loader = new URLClassLoader(new java.net.URL[] {folder.toUri().toURL()},
          ClassLoader.getPlatformClassLoader())) {
        Class<?> broken = loader.loadClass("RemainderYard");
        for (int i = 0; i < uses.size(); i++) {
          check.same(what + ", use " + i, isSound(broken, uses.get(i)), false);
        }
      }
    } finally {
      delete(folder);
    }
  }

  private static int built(Path folder, Path source) throws Exception {
    JavaCompiler compiler = ToolProvider.getSystemJavaCompiler();
    if (compiler != null) {
      return compiler.run(null, null, null, "-d", folder.toString(), source.toString());
    }
    return new ProcessBuilder("javac", "-d", folder.toString(), source.toString()).inheritIO().start()
        .waitFor();
  }

  private static Object isSound(Class<?> program, Use use) throws Exception {
    Object yard = program.getConstructor().newInstance();
    use.on(yard);
    return call(yard, "isSound");
  }

  /** The program itself is sound behind the same uses, where calls can make such a yard. */
  private static void soundWhereNotBroken(String what, List<Use> uses) throws Exception {
    for (int i = 0; i < uses.size(); i++) {
      check.same(what + ", not broken, use " + i, isSound(RemainderYard.class, uses.get(i)), true);
    }
  }

  private static void delete(Path folder) throws IOException {
    List<Path> files = new ArrayList<>();
    try (Stream<Path> all = Files.walk(folder)) {
      all.sorted(Comparator.reverseOrder()).forEach(files::add);
    }
    for (Path file : files) {
      Files.delete(file);
    }
  }

  private static void commonDivisorOfTwoDials() throws Exception {
    int[][] yards = {{4, 6}, {4, 9, 6}, {9, 4, 6}, {4, 35, 9, 121, 49}, {9999, 2, 3}};
    List<Use> uses = new ArrayList<>();
    for (int[] dials : yards) {
      uses.add(yard -> dials(yard, dials));
    }
    seen("'no two dials have a common divisor above 1'", "if (dialList.firstClash(dial) >= 0) {",
        "if (dial == 5) {", uses);
  }

  private static void remaindersOfItsWheels() throws Exception {
    int[] dials = {3, 5, 7};
    List<Use> uses = new ArrayList<>();
    for (int i = 0; i < 36; i++) {
      int row = i / 3;
      int index = i % 3;
      uses.add(yard -> {
        dials(yard, dials);
        call(yard, "turn", row, index, dials[index] + 2);
      });
    }
    seen("'the number of each row has the remainders of its wheels'",
        "if (place < 0 || place >= dialList.at(index)) {", "if (place < 0) {", uses);
  }

  private static void sumOfWhatEachMakesAlone() throws Exception {
    List<Use> uses = List.of(yard -> {
      dials(yard, 3, 5, 7);
      call(yard, "set", 6, 23L);
    }, yard -> dials(yard, 2));
    String what = "'is the sum, wheel by wheel, of what each makes alone'";
    // the mixed digits tell a number that is greater by the product, so that the remainders are right
    seen(what, "      into.become(0);\n      for (int i = dials.size() - 1; i >= 0; i--) {",
        "      into.become(1);\n      for (int i = dials.size() - 1; i >= 0; i--) {", uses);
    soundWhereNotBroken(what, uses);
  }

  private static void sumOfEachRow() throws Exception {
    List<Use> uses = new ArrayList<>();
    for (int i = 0; i < 12; i++) {
      int row = i;
      uses.add(yard -> {
        dials(yard, 3, 5, 7);
        call(yard, "set", row, 23L);
      });
    }
    // 105 more for the number 23 alone, so that the other rows are as they should be
    seen("'of each row the sum'", "    digits.putNumber(dialList, set, into);",
        "    digits.putNumber(dialList, set, into);\n"
            + "    into.scale(1, into.remainderBy(105) == 23 ? 105 : 0);", uses);
  }

  private static void rowsThatFollowEachOther() throws Exception {
    List<Use> uses = new ArrayList<>();
    for (int i = 0; i < 11; i++) {
      int last = i;
      // 3 is 0 1 0 and 2 is 2 0 0, so that the first digit orders them the other way
      uses.add(yard -> {
        dials(yard, 3, 5, 7);
        for (int row = 0; row < 12; row++) {
          call(yard, "set", row, row <= last ? 3L : 2L);
        }
      });
    }
    String what = "'compare by their digits as their numbers do'";
    seen(what, "      for (int i = count - 1; i >= 0; i--) {\n        if (values[i]",
        "      for (int i = 0; i < count; i++) {\n        if (values[i]", uses);
    soundWhereNotBroken(what, uses);
  }

  private static void fractionWithItsRemainders() throws Exception {
    List<Use> uses = new ArrayList<>();
    for (int i = 0; i < 12; i++) {
      int row = i;
      uses.add(yard -> {
        dials(yard, 3, 5, 7);
        call(yard, "setFraction", row, -1L, 2L);
      });
    }
    String what = "'a row whose fraction is told has it with its remainders'";
    seen(what, "factorBelowZero = !factorBelowZero;", "factorBelowZero = false;", uses);
    soundWhereNotBroken(what, uses);
  }

  private static void fractionByEachDial() throws Exception {
    List<Use> uses = List.of(yard -> {
      dials(yard, 3, 5, 7);
      call(yard, "setFraction", 4, -1L, 2L);
    });
    // more by the product of the other two, so that its remainder by one dial alone is wrong
    for (int more : new int[] {35, 21, 15}) {
      seen("'has it with its remainders', by " + 105 / more, "    Natural above() {\n",
          "    Natural above() {\n      rest.scale(1, " + more + ");\n", uses);
    }
  }

  private static Use conditions(int... told) {
    return yard -> {
      for (int i = 0; i < told.length; i += 2) {
        call(yard, "meet", told[i], told[i + 1]);
      }
    };
  }

  private static void conditionsThatAreApart() throws Exception {
    List<Use> uses = List.of(conditions(1, 6, 0, 4), conditions(0, 5, 0, 7, 1, 6, 0, 4),
        conditions(1, 6, 0, 1, 0, 5, 0, 7, 0, 11, 0, 13, 0, 17, 0, 4));
    String what = "'all conditions can be met exactly if no two are apart', where two are";
    seen(what, "return PAIR * i + j;", "return -1;", uses);
    soundWhereNotBroken(what, uses);
  }

  private static void conditionsThatCanBeMet() throws Exception {
    List<Use> uses = List.of(conditions(4, 5, 3, 4), conditions(3, 5, 1, 6, 3, 4));
    String what = "'all conditions can be met exactly if no two are apart', where none are";
    seen(what, "if (shared < 1 || missing % shared != 0) {", "if (shared < 1 || missing != 0) {", uses);
    seen(what, "int shared = Residues.commonDivisor(moduli[i], moduli[j]);", "int shared = moduli[i];",
        uses);
    soundWhereNotBroken(what, uses);
  }

  private static void numberThatMeetsEachOfThem() throws Exception {
    List<Use> uses = List.of(conditions(3, 5, 1, 4, 2, 3));
    // more by the product of the other two, so that one condition alone is not met
    for (int more : new int[] {12, 15, 20}) {
      seen("'all conditions can be met', that by " + 60 / more, "        steps.scale(part, 0);\n      }\n",
          "        steps.scale(part, 0);\n      }\n      into.scale(1, " + more + ");\n", uses);
    }
  }

  private static void numberThatMeetsThem() throws Exception {
    List<Use> uses = List.of(conditions(3, 5, 3, 4), conditions(1, 2, 3, 5, 3, 4));
    String what = "'all conditions can be met', by the number that is told";
    seen(what, "into.raiseBy(steps, Residues.of(times, part));", "into.raiseBy(steps, 1);", uses);
    soundWhereNotBroken(what, uses);
  }
}
