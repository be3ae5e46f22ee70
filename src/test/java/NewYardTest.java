import java.util.LinkedHashMap;
import java.util.Map;

/** Promise 1, and 'at first' and 'without any' of the Terms: what each call answers on a new object. */
public final class NewYardTest {
  private static final Check check = new Check("NewYardTest");

  public static void main(String[] args) {
    check.all(NewYardTest.class);
  }

  /** Calls that show something, or change it, on a yard without dials; what they answer. */
  private static Map<Check.Call, Object> answers() {
    Map<Check.Call, Object> due = new LinkedHashMap<>();
    due.put(x -> x.addDial(7), 0);
    due.put(x -> x.clash(7), -1);
    due.put(x -> x.dropDial(0), Yards.NONE);
    due.put(x -> x.setSpare(0), 0);
    due.put(x -> x.setSpare(1), Yards.RANGE);
    due.put(x -> x.dials(), 0);
    due.put(x -> x.dialAt(0), Yards.NONE);
    due.put(x -> x.type('a'), 1);
    due.put(x -> x.erase(), 0);
    due.put(x -> x.signAt(0), Yards.RANGE);
    due.put(x -> x.set(0, 0), true);
    due.put(x -> x.set(0, 1), false);
    due.put(x -> x.read(0), Yards.NO_NUMBER);
    due.put(x -> x.wheel(0, 0), Yards.NONE);
    due.put(x -> x.turn(0, 0, 0), Yards.NONE);
    due.put(x -> x.copy(0, 11), 0);
    due.put(x -> x.undo(), Yards.NONE);
    due.put(x -> x.add(0, 1, 2), 0);
    due.put(x -> x.subtract(0, 1, 2), 0);
    due.put(x -> x.multiply(0, 1, 2), 0);
    due.put(x -> x.power(0, 1, 2), 0);
    due.put(x -> x.power(0, 1, -2), 0);
    due.put(x -> x.inverse(0, 1), 0);
    due.put(x -> x.divide(0, 1, 2), 0);
    due.put(x -> x.divideBy(0, 1, 0), Yards.NONE);
    due.put(x -> x.determinant(0, 3), 0);
    due.put(x -> x.polynomial(0, 6, 6, 11), 0);
    due.put(x -> x.digit(0, 0), Yards.NONE);
    due.put(x -> x.compare(0, 11), 0);
    due.put(x -> x.sign(0), 0);
    due.put(x -> x.isOver(0, 1, '+'), false);
    due.put(x -> x.isOver(0, 1, '*'), false);
    due.put(x -> x.isEnough(3), true);
    due.put(x -> x.isTrue(11), true);
    due.put(x -> x.find(11), -1);
    due.put(x -> x.mend(11), Yards.NONE);
    due.put(x -> x.setFraction(0, 6, 3), true);
    due.put(x -> x.setFraction(0, 3, 6), false);
    due.put(x -> x.setFraction(0, 3, 0), Yards.ARITHMETIC);
    due.put(x -> x.fraction(0), Yards.NONE);
    due.put(x -> x.told(0, 1), Yards.RANGE);
    due.put(x -> x.open(1), Yards.RANGE);
    due.put(x -> x.open(0), Yards.RANGE);
    due.put(x -> x.meet(3, 5), 1);
    due.put(x -> x.apart(), -1);
    due.put(x -> x.forget(), 0);
    due.put(x -> x.checksum(), 217L);
    due.put(x -> x.isSound(), true);
    return due;
  }

  /** The calls that put a number into the text, and the text then. */
  private static Map<Check.Call, String> numbers() {
    Map<Check.Call, String> due = new LinkedHashMap<>();
    due.put(x -> x.product(), "1");
    due.put(x -> x.tell(5), "0");
    due.put(x -> x.tellSigned(5), "0");
    due.put(x -> x.told(5, 0), "0");
    due.put(x -> x.meeting(), "0");
    due.put(x -> x.period(), "1");
    return due;
  }

  private static void eachCallOnANewObject() {
    int call = 0;
    for (Map.Entry<Check.Call, Object> due : answers().entrySet()) {
      RemainderYard yard = new RemainderYard();
      check.same("a new object, call " + call, Check.outcome(yard, due.getKey()), due.getValue());
      call++;
    }
    for (Map.Entry<Check.Call, String> due : numbers().entrySet()) {
      RemainderYard yard = new RemainderYard();
      int length = (int) Check.outcome(yard, due.getKey());
      check.tells("a new object, a call that tells " + due.getValue(), yard, length, due.getValue());
    }
  }

  /** Without dials a row has nothing to become, so that all is as with a new object but the kept calls. */
  private static void eachCallBehindRowsWithoutDials() {
    int call = 0;
    for (Map.Entry<Check.Call, Object> due : answers().entrySet()) {
      RemainderYard yard = new RemainderYard();
      for (int row = 0; row < 12; row++) {
        yard.set(row, 1000 + row);
      }
      boolean undo = call == 16;
      check.same("rows without dials, call " + call, Check.outcome(yard, due.getKey()),
          undo ? 11 : due.getValue());
      call++;
    }
  }

  private static void eachCallWhereAllDialsHaveGone() {
    int call = 0;
    for (Map.Entry<Check.Call, Object> due : answers().entrySet()) {
      RemainderYard yard = Check.yard(3, 5);
      yard.setSpare(2);
      yard.set(0, 14);
      yard.set(11, 7);
      yard.dropDial(0);
      yard.dropDial(0);
      check.same("all dials have gone, call " + call, Check.outcome(yard, due.getKey()), due.getValue());
      call++;
    }
  }

  private static void twoObjectsShareNothing() {
    for (Check.Maker maker : Yards.ALL) {
      RemainderYard first = maker.make();
      RemainderYard second = Check.yard(9, 10, 11);
      second.setSpare(3);
      second.set(0, 989);
      second.set(7, 5);
      second.undo();
      second.meet(4, 7);
      Check.type(second, "second");
      second.isSound();
      second.fraction(0);
      check.sameState("'a yard', and another one beside it", first, maker.make());
    }
  }
}
