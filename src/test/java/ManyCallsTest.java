import java.util.LinkedHashMap;
import java.util.Map;

/** 'An object is used for at most 512 calls': up to the last of them, it answers as at first. */
public final class ManyCallsTest {
  private static final int CALLS = 512;
  private static final int CALLS_AHEAD = 13;
  private static final Check check = new Check("ManyCallsTest");

  public static void main(String[] args) {
    check.all(ManyCallsTest.class);
  }

  /** By 3, 5, 7 and 11, two of them spare; row 2 can be mended; made by as many calls as CALLS_AHEAD. */
  private static RemainderYard yard() {
    RemainderYard yard = Check.yard(3, 5, 7, 11);
    yard.setSpare(2);
    yard.set(1, 8);
    yard.set(2, 178);
    yard.setFraction(3, -1, 2);
    yard.meet(2, 9);
    yard.meet(1, 4);
    yard.meet(5, 6);
    yard.type('4');
    yard.type('2');
    return yard;
  }

  /** Calls that answer the same from the second time on, and leave all as it is from then on. */
  private static Map<String, Check.Call> calls() {
    Map<String, Check.Call> calls = new LinkedHashMap<>();
    calls.put("addDial, refused", x -> x.addDial(9));
    calls.put("clash", x -> x.clash(10));
    calls.put("dropDial, refused", x -> x.dropDial(4));
    calls.put("setSpare", x -> x.setSpare(1));
    calls.put("dials", x -> x.dials());
    calls.put("dialAt", x -> x.dialAt(3));
    calls.put("product", x -> x.product());
    calls.put("type, refused", x -> x.type((char) 127));
    calls.put("erase", x -> x.erase());
    calls.put("signAt", x -> x.signAt(1));
    calls.put("set", x -> x.set(4, -7));
    calls.put("read", x -> x.read(4));
    calls.put("tell", x -> x.tell(2));
    calls.put("tellSigned", x -> x.tellSigned(3));
    calls.put("wheel", x -> x.wheel(2, 3));
    calls.put("turn", x -> x.turn(4, 3, 9));
    calls.put("copy", x -> x.copy(4, 2));
    calls.put("add", x -> x.add(4, 1, 2));
    calls.put("subtract", x -> x.subtract(4, 1, 2));
    calls.put("multiply", x -> x.multiply(4, 1, 2));
    calls.put("power", x -> x.power(4, 1, Integer.MIN_VALUE));
    calls.put("inverse", x -> x.inverse(4, 1));
    calls.put("divide", x -> x.divide(4, 2, 1));
    calls.put("divideBy", x -> x.divideBy(4, 2, 2));
    calls.put("determinant", x -> x.determinant(11, 1));
    calls.put("polynomial", x -> x.polynomial(11, 0, 6, 3));
    calls.put("digit", x -> x.digit(2, 3));
    calls.put("compare", x -> x.compare(1, 2));
    calls.put("sign", x -> x.sign(3));
    calls.put("isOver", x -> x.isOver(2, 3, '*'));
    calls.put("isEnough", x -> x.isEnough(0));
    calls.put("isTrue", x -> x.isTrue(2));
    calls.put("find", x -> x.find(2));
    calls.put("mend", x -> x.mend(2));
    calls.put("setFraction", x -> x.setFraction(4, 9, 2));
    calls.put("fraction", x -> x.fraction(3));
    calls.put("told", x -> x.told(2, 9));
    calls.put("open", x -> x.open(2));
    calls.put("meet, refused", x -> x.meet(1, 0));
    calls.put("apart", x -> x.apart());
    calls.put("meeting", x -> x.meeting());
    calls.put("period", x -> x.period());
    calls.put("forget", x -> x.forget());
    calls.put("checksum", x -> x.checksum());
    calls.put("isSound", x -> x.isSound());
    calls.put("no row", x -> x.set(12, 1));
    calls.put("no inverse", x -> x.inverse(4, 0));
    return calls;
  }

  private static void eachCallUpToTheLast() {
    calls().forEach((name, call) -> {
      RemainderYard twice = yard();
      Check.outcome(twice, call);
      Object due = Check.outcome(twice, call);
      RemainderYard yard = yard();
      Check.outcome(yard, call);
      for (int i = CALLS_AHEAD + 2; i < CALLS; i++) {
        check.same(name + ", call " + i, Check.outcome(yard, call), due);
      }
      check.same(name + ", the last call", yard.checksum(), twice.checksum());
    });
  }

  private static void undoUpToTheLast() {
    RemainderYard yard = new RemainderYard();
    yard.set(3, 5);
    check.same("undo", Check.outcome(yard, x -> x.undo()), 3);
    for (int i = 3; i <= CALLS; i++) {
      check.same("undo, call " + i, Check.outcome(yard, x -> x.undo()), Yards.NONE);
    }
  }

  private static void rowsAndWhatIsKept() {
    RemainderYard yard = Check.yard(9973);
    for (int i = 1; i < CALLS - 15; i++) {
      check.same("set " + i, yard.set(i % 12, i), true);
    }
    for (int i = CALLS - 16; i > CALLS - 28; i--) {
      check.same("undo " + i, Check.outcome(yard, x -> x.undo()), i % 12);
    }
    check.same("undo, no more", Check.outcome(yard, x -> x.undo()), Yards.NONE);
    check.same("the row of the last but twelve", yard.wheel((CALLS - 28) % 12, 0), CALLS - 28);
    check.same("the last call", yard.wheel((CALLS - 39) % 12, 0), CALLS - 39);
  }

  private static void dialsThatComeAndGo() {
    RemainderYard yard = Check.yard(2, 3, 5, 7, 11, 13, 17, 19, 23);
    yard.set(5, 29);
    for (int i = 0; i < (CALLS - 12) / 2; i++) {
      check.same("addDial " + i, yard.addDial(29), 9);
      check.same("dropDial " + i, yard.dropDial(9), 29);
    }
    check.same("the row", yard.wheel(5, 8), 6);
    check.same("the last call", yard.tell(5), 2);
  }

  private static void signsThatComeAndGo() {
    RemainderYard yard = new RemainderYard();
    int calls = 0;
    for (int round = 0; round < 6; round++) {
      for (int i = 1; i <= 80; i++) {
        check.same("type " + i, yard.type('~'), i);
        calls++;
      }
      check.same("erase", yard.erase(), 80);
      calls++;
    }
    for (; calls < CALLS - 1; calls++) {
      yard.type('a');
    }
    check.same("the last call", yard.erase(), CALLS - 1 - 6 * 81);
  }

  private static void conditionsThatComeAndGo() {
    RemainderYard yard = new RemainderYard();
    int calls = 0;
    for (; calls + 9 < CALLS; calls += 9) {
      for (int i = 1; i <= 8; i++) {
        check.same("meet " + i, yard.meet(i, 9999), i);
      }
      check.same("forget", yard.forget(), 8);
    }
    for (; calls < CALLS - 1; calls++) {
      yard.meet(4, 7);
    }
    check.same("the last call", Check.outcome(yard, x -> x.meeting()), 1);
  }
}
