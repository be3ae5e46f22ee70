import java.lang.reflect.InvocationTargetException;
import java.lang.reflect.Method;
import java.lang.reflect.Modifier;
import java.util.Arrays;
import java.util.Comparator;
import java.util.Objects;

/** Counts checks, prints those that are wrong, and ends a test with the exit code for them. */
final class Check {
  interface Maker {
    RemainderYard make();
  }

  interface Call {
    Object on(RemainderYard yard);
  }

  private final String name;
  private String part = "";
  private int done;
  private int wrong;

  Check(String name) {
    this.name = name;
  }

  static RemainderYard yard(int... dials) {
    RemainderYard yard = new RemainderYard();
    for (int dial : dials) {
      yard.addDial(dial);
    }
    return yard;
  }

  static String textOf(RemainderYard yard) {
    StringBuilder text = new StringBuilder();
    for (int place = 0; place < 80; place++) {
      try {
        text.append(yard.signAt(place));
      } catch (IllegalArgumentException e) {
        return text.toString();
      }
    }
    return text.toString();
  }

  static void type(RemainderYard yard, String text) {
    for (int i = 0; i < text.length(); i++) {
      yard.type(text.charAt(i));
    }
  }

  /** All dials, and the wheels of all rows. */
  static String wheelsOf(RemainderYard yard) {
    StringBuilder wheels = new StringBuilder("by");
    int dials = yard.dials();
    for (int i = 0; i < dials; i++) {
      wheels.append(' ').append(yard.dialAt(i));
    }
    for (int row = 0; row < 12; row++) {
      wheels.append(", ").append(row).append(':');
      for (int i = 0; i < dials; i++) {
        wheels.append(' ').append(yard.wheel(row, i));
      }
    }
    return wheels.toString();
  }

  /** The class of what a call throws, or its answer. */
  static Object outcome(RemainderYard yard, Call call) {
    try {
      return call.on(yard);
    } catch (RuntimeException e) {
      return e.getClass();
    }
  }

  void same(String what, Object got, Object due) {
    done++;
    if (!Objects.equals(got, due)) {
      wrong++;
      System.out.println(name + part + ": " + what + ": got " + got + ", due is " + due);
    }
  }

  void textIs(String what, RemainderYard yard, String due) {
    same(what + ", the text", textOf(yard), due);
  }

  /** A call that puts a number into the text: its answer and the text. */
  void tells(String what, RemainderYard yard, int length, String due) {
    same(what + ", the answer", length, due.length());
    textIs(what, yard, due);
  }

  void numberIs(String what, RemainderYard yard, int row, String due) {
    RemainderYard asked = yard;
    String before = textOf(asked);
    asked.tell(row);
    textIs(what + ", the number of row " + row, asked, due);
    asked.erase();
    type(asked, before);
  }

  void rowIs(String what, RemainderYard yard, int row, int... places) {
    same(what + ", how many dials", yard.dials(), places.length);
    for (int i = 0; i < places.length && i < yard.dials(); i++) {
      same(what + ", wheel " + i + " of row " + row, yard.wheel(row, i), places[i]);
    }
  }

  /** The call throws just this, and changes nothing that any later call can tell. */
  void refuses(String what, Maker maker, Call call, Class<?> due) {
    RemainderYard yard = maker.make();
    same(what, outcome(yard, call), due);
    sameState(what + ", what is behind it", yard, maker.make());
  }

  /** The call is refused in each of these yards, and changes nothing in it. */
  void refused(String what, Call call, Class<?> due, Maker... makers) {
    for (int i = 0; i < makers.length; i++) {
      refuses(what + ", yard " + i, makers[i], call, due);
    }
  }

  /** The call keeps what row was ahead of it; another yard of the same maker tells what it was. */
  void keeps(String what, Maker maker, Call call, int row) {
    RemainderYard yard = maker.make();
    RemainderYard twin = maker.make();
    Object answer = outcome(yard, call);
    same(what + " throws", answer instanceof Class, false);
    same(what + ", undo()", outcome(yard, x -> x.undo()), row);
    yard.erase();
    twin.erase();
    sameState(what + " and undo()", yard, twin);
  }

  void sameState(String what, RemainderYard a, RemainderYard b) {
    same(what + ", text", textOf(a), textOf(b));
    same(what + ", dials and wheels", wheelsOf(a), wheelsOf(b));
    same(what + ", checksum", a.checksum(), b.checksum());
    for (int i = 0; i < 13; i++) {
      same(what + ", undo " + i, outcome(a, x -> x.undo()), outcome(b, x -> x.undo()));
      same(what + ", checksum behind undo " + i, a.checksum(), b.checksum());
    }
    same(what + ", apart", a.apart(), b.apart());
    same(what + ", meeting", outcome(a, x -> x.meeting()), outcome(b, x -> x.meeting()));
    same(what + ", text of meeting", textOf(a), textOf(b));
    same(what + ", how many conditions", a.forget(), b.forget());
    same(what + ", spare dials", a.setSpare(0), b.setSpare(0));
  }

  /**
   * Runs each static method without parameters and without an answer, as a test of its own: one
   * that throws is wrong, and the others run all the same.
   */
  void all(Class<?> tests) {
    Method[] methods = tests.getDeclaredMethods();
    Arrays.sort(methods, Comparator.comparing(Method::getName));
    for (Method method : methods) {
      boolean plain = Modifier.isStatic(method.getModifiers()) && !method.isSynthetic();
      if (plain && method.getParameterCount() == 0 && method.getReturnType() == void.class) {
        part = "." + method.getName();
        runOne(method);
      }
    }
    part = "";
    end();
  }

  private void runOne(Method method) {
    int before = done;
    try {
      method.setAccessible(true);
      method.invoke(null);
      same("it checks something", done > before, true);
    } catch (InvocationTargetException e) {
      same("it throws", e.getCause(), null);
    } catch (IllegalAccessException e) {
      same("it cannot be run", e, null);
    }
  }

  void end() {
    System.out.println(name + ": " + done + " checks, " + wrong + " wrong");
    if (wrong != 0 || done == 0) {
      System.exit(1);
    }
  }
}
