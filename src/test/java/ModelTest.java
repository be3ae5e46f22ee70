import java.lang.reflect.InvocationTargetException;
import java.lang.reflect.Method;
import java.util.ArrayList;
import java.util.Arrays;
import java.util.Comparator;
import java.util.List;

/** Long runs of calls, on the program and on the model, whose answers and states are compared. */
public final class ModelTest {
  private static final int RUNS = 700;
  /** What an object answers behind so many calls is free, so that each run has as many in all. */
  private static final int CALLS = 512;
  private static final int UNDOS = 14;
  private static final int CALLS_AT_THE_END = 2 * UNDOS + 2;
  private static final int[][] POOLS = {
    {2, 3, 5, 7, 11, 13},
    {2, 3, 4, 5, 6, 7, 8, 9, 10, 11, 12, 13, 25, 49},
    {97, 89, 83, 79, 73, 71, 67, 64, 81, 25, 49},
    {9999, 9998, 9997, 9973, 9967, 9949, 9941, 9931, 9929, 9923, 9907, 9901, 9887},
    {2, 9999, 3, 9973, 5, 101, 64, 7, 9967, 11, 13, 9901, 17, 9887},
    {2, 3, 5, 7, 9, 1, 0, -3, 10000, 9999, Integer.MIN_VALUE, Integer.MAX_VALUE},
  };
  private static final long[] LONGS = {
    0, 1, -1, 2, -2, 3, 5, 7, 104, 105, Long.MAX_VALUE, Long.MIN_VALUE, Long.MIN_VALUE + 1,
    Integer.MAX_VALUE, Integer.MIN_VALUE, 999999999, 1000000000, 1000000000000000000L
  };
  private static final int[] INTS = {
    0, 1, -1, 2, 9, 10, 11, 12, 13, Integer.MAX_VALUE, Integer.MIN_VALUE, Integer.MAX_VALUE - 7
  };

  private final Check check = new Check("ModelTest");
  private final List<Method> methods = new ArrayList<>();
  private final int[] answered = new int[100];
  private long seed;
  private int[] pool;
  private int left;
  private boolean differs;

  public static void main(String[] args) throws Exception {
    new ModelTest().runAll();
  }

  private void runAll() throws Exception {
    for (Method method : RemainderYard.class.getDeclaredMethods()) {
      if (java.lang.reflect.Modifier.isPublic(method.getModifiers())) {
        methods.add(method);
      }
    }
    methods.sort(Comparator.comparing(Method::getName));
    check.same("how many methods", methods.size(), 46);
    for (int run = 0; run < RUNS; run++) {
      seed = 7919L * run + 17;
      pool = POOLS[run % POOLS.length];
      runOne(run);
    }
    for (int i = 0; i < methods.size(); i++) {
      check.same(methods.get(i).getName() + " has answered often, " + answered[i], answered[i] > 100, true);
    }
    check.end();
  }

  private int draw(int below) {
    seed = seed * 6364136223846793005L + 1442695040888963407L;
    return (int) ((seed >>> 33) % below);
  }

  private void runOne(int run) throws Exception {
    RemainderYard yard = new RemainderYard();
    ModelYard model = new ModelYard();
    int dialsAtFirst = 2 * draw(11);
    left = CALLS;
    for (int call = 0; left > CALLS_AT_THE_END; call++) {
      Method method = methods.get(draw(methods.size()));
      if (call < dialsAtFirst) {
        method = method("addDial");
      } else if (method.getName().matches("dropDial|erase|forget") && draw(4) != 0) {
        continue;
      } else if (draw(12) == 0) {
        typeNumber(yard, model);
      } else if (draw(30) == 0 && mendOne("run " + run + ", call " + (CALLS - left), yard, model)) {
        return;
      }
      Object[] args = argumentsOf(method, model);
      String what = "run " + run + ", call " + (CALLS - left);
      Object due = compared(what, method, yard, model, args);
      if (!(due instanceof Class)) {
        answered[methods.indexOf(method)]++;
      }
      if (differs || left > CALLS_AT_THE_END && draw(3) != 0 && !sameChecksum(what, yard, model)) {
        return;
      }
      if (draw(40) == 0) {
        sameText(what, yard, model);
      }
    }
    undoAll(run, yard, model);
    while (left > 1) {
      left--;
      check.same("run " + run + ", sound", yard.isSound(), true);
    }
    sameChecksum("run " + run + ", the last call", yard, model);
  }

  /** One call of both; answers what is due. */
  private Object compared(String what, Method method, RemainderYard yard, ModelYard model,
      Object... args) throws Exception {
    left--;
    Object got = outcome(method, yard, args);
    Method same = ModelYard.class.getMethod(method.getName(), method.getParameterTypes());
    Object due = outcome(same, model, args);
    check.same(what + ", " + method.getName() + Arrays.toString(args), got, due);
    differs = !got.equals(due);
    return due;
  }

  private boolean sameChecksum(String what, RemainderYard yard, ModelYard model) {
    left--;
    long got = yard.checksum();
    check.same(what + ", checksum behind it", got, model.checksum());
    return got == model.checksum();
  }

  /** Turns one wheel of a small number and mends it, if there are calls enough for it. */
  private boolean mendOne(String what, RemainderYard yard, ModelYard model) throws Exception {
    if (left < CALLS_AT_THE_END + 6 || model.dials() < 3) {
      return false;
    }
    int row = draw(12);
    int index = draw(model.dials());
    compared(what, method("setSpare"), yard, model, 1 + draw(2));
    compared(what, method("set"), yard, model, row, (long) draw(40));
    compared(what, method("turn"), yard, model, row, index, draw(model.dialAt(index)));
    compared(what, method("find"), yard, model, row);
    if (!(compared(what, method("mend"), yard, model, row) instanceof Class)) {
      answered[methods.indexOf(method("mend"))]++;
    }
    return differs;
  }

  private Method method(String name) {
    return methods.stream().filter(method -> method.getName().equals(name)).findFirst().orElseThrow();
  }

  /** If there are calls enough for it. */
  private void sameText(String what, RemainderYard yard, ModelYard model) {
    if (left < CALLS_AT_THE_END + model.text().length() + 1) {
      return;
    }
    // one call behind the last sign tells that it is the last
    left -= Math.min(model.text().length() + 1, 80);
    check.textIs(what, yard, model.text());
  }

  private void undoAll(int run, RemainderYard yard, ModelYard model) throws Exception {
    for (int i = 0; i < UNDOS; i++) {
      String what = "run " + run + ", undo " + i;
      compared(what, method("undo"), yard, model);
      sameChecksum(what, yard, model);
    }
  }

  /** If there are calls enough for it. */
  private void typeNumber(RemainderYard yard, ModelYard model) {
    String lead = new String[] {"", "", "+", "-", "00", "-0", " ", "+-"}[draw(8)];
    int digits = new int[] {0, 1, 2, 3, 6, 12, 24, 38, 76}[draw(9)];
    StringBuilder text = new StringBuilder(lead);
    for (int i = 0; i < digits; i++) {
      text.append((char) ('0' + draw(10)));
    }
    if (left < CALLS_AT_THE_END + text.length() + 2) {
      return;
    }
    left -= text.length() + 1;
    yard.erase();
    model.erase();
    for (int i = 0; i < text.length(); i++) {
      yard.type(text.charAt(i));
      model.type(text.charAt(i));
    }
  }

  private static Object outcome(Method method, Object on, Object[] args) throws Exception {
    try {
      return method.invoke(on, args);
    } catch (InvocationTargetException e) {
      return e.getCause().getClass();
    }
  }

  private Object[] argumentsOf(Method method, ModelYard model) {
    String name = method.getName();
    Class<?>[] types = method.getParameterTypes();
    Object[] args = new Object[types.length];
    for (int i = 0; i < args.length; i++) {
      if (types[i] == char.class) {
        args[i] = signFor(name);
      } else if (types[i] == long.class) {
        args[i] = draw(3) == 0 ? LONGS[draw(LONGS.length)] : (long) draw(20000) - 5000;
      } else {
        args[i] = draw(40) == 0 ? INTS[draw(INTS.length)] : usual(name, i, model.dials());
      }
    }
    return args;
  }

  private char signFor(String name) {
    if (name.equals("isOver")) {
      return "++++****-/".charAt(draw(10));
    }
    return draw(8) == 0 ? (char) (draw(4) == 0 ? draw(65536) : draw(140)) : (char) ('0' + draw(10));
  }

  private int usual(String name, int i, int dials) {
    switch (name) {
      case "addDial":
        return pool[draw(pool.length)];
      case "clash":
        return draw(2) == 0 ? draw(10001) : pool[draw(pool.length)];
      case "setSpare":
        return draw(dials + 2) - draw(2);
      case "dropDial":
      case "dialAt":
        return draw(dials + 1);
      case "signAt":
        return draw(60);
      case "open":
        return draw(dials + 2);
      case "meet":
        return i == 0 ? draw(200) - 50 : draw(2) == 0 ? 1 + draw(30) : 1 + draw(9999);
      default:
        return usualOfRows(name, i, dials);
    }
  }

  private int usualOfRows(String name, int i, int dials) {
    boolean isIndex = i == 1 && (name.equals("wheel") || name.equals("turn") || name.equals("digit"))
        || i == 2 && name.equals("divideBy");
    if (isIndex) {
      return draw(20) == 0 ? dials : draw(Math.max(dials, 1));
    }
    if (name.equals("turn") && i == 2) {
      return draw(3) == 0 ? draw(10000) : draw(8);
    }
    if (name.equals("power") && i == 2) {
      return draw(40) - 15;
    }
    if (name.equals("told") && i == 1) {
      return draw(30) == 0 ? 1 << dials : draw(1 << dials);
    }
    if (name.equals("polynomial")) {
      return i == 1 ? draw(8) : i == 2 ? draw(8) : draw(12);
    }
    if ((name.equals("determinant") && i == 1) || name.equals("isEnough")) {
      return draw(5);
    }
    return draw(12);
  }
}
