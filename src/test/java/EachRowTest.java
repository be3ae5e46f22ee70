import java.math.BigInteger;
import java.util.LinkedHashMap;
import java.util.Map;

/**
 * The parameters that are rows: a call looks at just the row that is named and changes just that one.
 * The rows of a yard are moved on by some places, and a call with the rows moved on alike must do alike.
 */
public final class EachRowTest {
  private interface OnRows {
    Object on(RemainderYard yard, int row, int a, int b);
  }

  private static final long[] NUMBERS = {97, 1154, 13, 250, 17, 1009, 26, 8, 577, 178, 2, 811};
  private static final int PRODUCT = 1155;
  private static final Check check = new Check("EachRowTest");

  public static void main(String[] args) {
    check.all(EachRowTest.class);
  }

  /** By 3, 5, 7 and 11, two of them spare; the numbers are in the rows from this one on. */
  private static RemainderYard from(int first) {
    RemainderYard yard = Check.yard(3, 5, 7, 11);
    yard.setSpare(2);
    for (int i = 0; i < 12; i++) {
      yard.set((i + first) % 12, NUMBERS[i]);
    }
    Check.type(yard, "-3");
    return yard;
  }

  private static String rows(RemainderYard yard, int first) {
    StringBuilder rows = new StringBuilder();
    for (int i = 0; i < 12; i++) {
      rows.append(Yards.row(yard, (i + first) % 12)).append(", ");
    }
    return rows.toString();
  }

  private static void movedOn(String name, OnRows call, int row, int a, int b) {
    RemainderYard due = from(0);
    Object answer = Check.outcome(due, x -> call.on(x, row, a, b));
    check.same(name + " throws", answer instanceof Class, false);
    String text = Check.textOf(due);
    String rows = rows(due, 0);
    for (int first = 0; first < 12; first++) {
      int on = first;
      RemainderYard yard = from(first);
      String what = name + ", moved on by " + first;
      check.same(what, Check.outcome(yard,
          x -> call.on(x, (row + on) % 12, (a + on) % 12, (b + on) % 12)), answer);
      check.same(what + ", the text", Check.textOf(yard), text);
      check.same(what + ", the rows", rows(yard, first), rows);
    }
  }

  private static void changesJust(String name, OnRows call) {
    for (int row = 0; row < 12; row++) {
      int asked = row;
      RemainderYard yard = from(0);
      call.on(yard, row, 4, 7);
      for (int other = 0; other < 12; other++) {
        boolean same = Yards.row(yard, other).equals(Yards.row(from(0), other));
        check.same(name + " to " + asked + ", row " + other, same, other != row);
      }
      check.same(name + " to " + asked + ", undo()", Check.outcome(yard, x -> x.undo()), asked);
    }
  }

  private static void callsThatTell() {
    Map<String, OnRows> calls = new LinkedHashMap<>();
    calls.put("tell", (x, row, a, b) -> x.tell(row));
    calls.put("tellSigned", (x, row, a, b) -> x.tellSigned(row));
    calls.put("wheel", (x, row, a, b) -> x.wheel(row, 3));
    calls.put("digit", (x, row, a, b) -> x.digit(row, 3));
    calls.put("sign", (x, row, a, b) -> x.sign(row));
    calls.put("isTrue", (x, row, a, b) -> x.isTrue(row));
    calls.put("find", (x, row, a, b) -> x.find(row));
    calls.put("told", (x, row, a, b) -> x.told(row, 6));
    calls.put("compare", (x, row, a, b) -> x.compare(row, a));
    calls.put("isOver, the sum", (x, row, a, b) -> x.isOver(row, a, '+'));
    calls.put("isOver, the product", (x, row, a, b) -> x.isOver(row, a, '*'));
    calls.forEach((name, call) -> {
      for (int row = 0; row < 12; row++) {
        movedOn(name, call, row, (5 * row + 1) % 12, 0);
      }
    });
    movedOn("fraction", (x, row, a, b) -> x.fraction(row), 2, 0, 0);
    movedOn("fraction", (x, row, a, b) -> x.fraction(row), 1, 0, 0);
  }

  private static Map<String, OnRows> callsThatLetARowBecome() {
    Map<String, OnRows> calls = new LinkedHashMap<>();
    calls.put("set", (x, row, a, b) -> x.set(row, 99));
    calls.put("read", (x, row, a, b) -> x.read(row));
    calls.put("turn", (x, row, a, b) -> x.turn(row, 3, (x.wheel(row, 3) + 1) % 11));
    calls.put("setFraction", (x, row, a, b) -> x.setFraction(row, 3, 16));
    calls.put("copy", (x, row, a, b) -> x.copy(row, (row + 1) % 12));
    calls.put("power", (x, row, a, b) -> x.power(row, a, 3));
    calls.put("power, below 0", (x, row, a, b) -> x.power(row, a, -3));
    calls.put("inverse", (x, row, a, b) -> x.inverse(row, a));
    calls.put("divideBy", (x, row, a, b) -> x.divideBy(row, a, 1));
    calls.put("add", (x, row, a, b) -> x.add(row, a, b));
    calls.put("subtract", (x, row, a, b) -> x.subtract(row, a, b));
    calls.put("multiply", (x, row, a, b) -> x.multiply(row, a, b));
    calls.put("divide", (x, row, a, b) -> x.divide(row, a, b));
    calls.put("determinant", (x, row, a, b) -> x.determinant(row, 2));
    calls.put("polynomial", (x, row, a, b) -> x.polynomial(row, 6, 4, a));
    return calls;
  }

  private static void callsThatChangeJustOneRow() {
    callsThatLetARowBecome().forEach(EachRowTest::changesJust);
  }

  private static void callsThatLetARowBecomeMovedOn() {
    callsThatLetARowBecome().forEach((name, call) -> {
      if (!name.equals("determinant") && !name.equals("polynomial")) {
        movedOn(name, call, 0, 4, 7);
        movedOn(name, call, 10, 7, 2);
        movedOn(name, call, 4, 4, 10);
        movedOn(name, call, 5, 2, 2);
      }
    });
    movedOn("copy from afar", (x, row, a, b) -> x.copy(row, a), 3, 9, 0);
  }

  private static void mendOfEachRow() {
    for (int row = 0; row < 12; row++) {
      for (int wheel = 0; wheel < 4; wheel++) {
        RemainderYard yard = from(0);
        yard.set(row, 13);
        int was = yard.wheel(row, wheel);
        yard.turn(row, wheel, was == 0 ? 1 : 0);
        String others = rows(yard, row).substring(Yards.row(yard, row).length());
        check.same("find " + row + ", wheel " + wheel, yard.find(row), wheel);
        check.same("mend " + row + ", wheel " + wheel, yard.mend(row), was);
        check.numberIs("mend", yard, row, "13");
        check.same("mend " + row + ": no other row", rows(yard, row).substring(Yards.row(yard, row)
            .length()), others);
      }
    }
  }

  private static void fractionOfEachRow() {
    for (int row = 0; row < 12; row++) {
      RemainderYard yard = from(0);
      for (int i = 0; i < 12; i++) {
        yard.setFraction(i, i - 5, 13);
      }
      check.tells("fraction " + row, yard, yard.fraction(row), row - 5 == 0 ? "0/1" : row - 5 + "/13");
    }
  }

  private static long minor(int first, int one, int other, int third) {
    return NUMBERS[first + one] * NUMBERS[first + 3 + other] * NUMBERS[first + 6 + third];
  }

  private static void determinantFromEachRow() {
    for (int first = 0; first <= 3; first++) {
      long due = minor(first, 0, 1, 2) + minor(first, 1, 2, 0) + minor(first, 2, 0, 1)
          - minor(first, 2, 1, 0) - minor(first, 1, 0, 2) - minor(first, 0, 2, 1);
      for (int row = 0; row < 12; row++) {
        RemainderYard yard = from(0);
        yard.determinant(row, first);
        check.numberIs("determinant to " + row + " from " + first, yard, row,
            Long.toString(Math.floorMod(due, (long) PRODUCT)));
      }
    }
  }

  private static void polynomialOfEachRow() {
    for (int many = 1; many <= 6; many++) {
      for (int first = 0; first <= 12 - many; first++) {
        for (int at = 0; at < 12; at++) {
          BigInteger due = BigInteger.ZERO;
          for (int i = 0; i < many; i++) {
            due = due.add(BigInteger.valueOf(NUMBERS[at]).pow(i)
                .multiply(BigInteger.valueOf(NUMBERS[first + i])));
          }
          int row = (first + 3 * at) % 12;
          RemainderYard yard = from(0);
          yard.polynomial(row, first, many, at);
          check.numberIs("polynomial of " + many + " to " + row + " from " + first + " at " + at, yard, row,
              due.mod(BigInteger.valueOf(PRODUCT)).toString());
        }
      }
    }
  }

  private static void isEnoughFromEachRow() {
    for (int great = 0; great < 12; great++) {
      for (int first = 0; first <= 3; first++) {
        RemainderYard yard = Check.yard(3, 5, 7, 11);
        yard.set(great, PRODUCT - 5);
        check.same("isEnough from " + first + ", row " + great, yard.isEnough(first),
            great < first || great >= first + 9);
      }
    }
  }
}
