import java.math.BigInteger;

/**
 * 'Lets a row become ..', where the row is itself one of those that it is made of: it becomes what
 * another row would, the answer is the same, and no other row changes.
 */
public final class ItselfTest {
  private interface To {
    Object on(RemainderYard yard, int row);
  }

  private static final Check check = new Check("ItselfTest");

  public static void main(String[] args) {
    check.all(ItselfTest.class);
  }

  /** By ten great dials; all rows but the last one have an inverse. */
  private static RemainderYard yard() {
    RemainderYard yard = Check.yard(Yards.GREAT);
    long[] numbers = {31, 9876543211L, 1000003, 999999999989L, 65537, 7919, 104729, 4567891234567L, 59,
        2147483647, 61, 0};
    for (int row = 0; row < 12; row++) {
      yard.set(row, numbers[row]);
    }
    return yard;
  }

  private static void same(String what, To call, int row) {
    same(what, call, row, 11);
  }

  /** As made into a row apart, which is none of those that it is made of. */
  private static void same(String what, To call, int row, int rowApart) {
    RemainderYard apart = yard();
    RemainderYard itself = yard();
    Object due = Check.outcome(apart, x -> call.on(x, rowApart));
    Object got = Check.outcome(itself, x -> call.on(x, row));
    check.same(what + " into " + row + ", the answer", got, due);
    check.same(what + " throws", got instanceof Class, false);
    check.same(what + " into " + row + ", the row", Yards.row(itself, row), Yards.row(apart, rowApart));
    RemainderYard before = yard();
    for (int other = 0; other < 12; other++) {
      if (other != row) {
        check.same(what + " into " + row + ", row " + other, Yards.row(itself, other),
            Yards.row(before, other));
      }
    }
    check.same(what + " into " + row + ", undo()", Check.outcome(itself, x -> x.undo()), row);
    check.same(what + " into " + row + ", behind it", Check.wheelsOf(itself), Check.wheelsOf(before));
  }

  private static void copy() {
    for (int row = 0; row < 11; row++) {
      int from = row;
      same("copy of itself", (x, to) -> x.copy(to, from), row);
    }
  }

  private static void add() {
    same("add, the one", (x, to) -> x.add(to, 1, 2), 1);
    same("add, the other one", (x, to) -> x.add(to, 1, 2), 2);
    same("add, both", (x, to) -> x.add(to, 3, 3), 3);
  }

  private static void subtract() {
    same("subtract, the one", (x, to) -> x.subtract(to, 1, 2), 1);
    same("subtract, the other one", (x, to) -> x.subtract(to, 1, 2), 2);
    same("subtract, both", (x, to) -> x.subtract(to, 3, 3), 3);
  }

  private static void multiply() {
    same("multiply, the one", (x, to) -> x.multiply(to, 1, 2), 1);
    same("multiply, the other one", (x, to) -> x.multiply(to, 1, 2), 2);
    same("multiply, both", (x, to) -> x.multiply(to, 3, 3), 3);
  }

  private static void power() {
    for (int exponent : new int[] {0, 1, 2, 7, Integer.MAX_VALUE, -1, -2, -7, Integer.MIN_VALUE}) {
      same("power, exponent " + exponent, (x, to) -> x.power(to, 1, exponent), 1);
    }
  }

  private static void inverse() {
    for (int row = 0; row < 11; row++) {
      int from = row;
      same("inverse", (x, to) -> x.inverse(to, from), row);
    }
  }

  private static void divide() {
    same("divide, the first", (x, to) -> x.divide(to, 1, 2), 1);
    same("divide, the second", (x, to) -> x.divide(to, 1, 2), 2);
    same("divide, both", (x, to) -> x.divide(to, 3, 3), 3);
  }

  private static void divideBy() {
    for (int index = 0; index < 10; index++) {
      int dial = index;
      same("divideBy dial " + index, (x, to) -> x.divideBy(to, 1, dial), 1);
      same("divideBy dial " + index, (x, to) -> x.divideBy(to, 7, dial), 7);
      same("divideBy dial " + index + ", a small one", (x, to) -> x.divideBy(to, 0, dial), 0);
    }
  }

  private static void determinant() {
    for (int first = 0; first <= 3; first++) {
      int from = first;
      for (int row = first; row < first + 9; row++) {
        same("determinant from " + first, (x, to) -> x.determinant(to, from), row, first == 0 ? 11 : 0);
      }
    }
  }

  private static void polynomial() {
    for (int many = 1; many <= 6; many++) {
      int asked = many;
      for (int first = 0; first + many <= 12; first++) {
        int from = first;
        int apart = first == 0 ? 11 : 0;
        for (int row = first; row < first + many; row++) {
          int itself = row;
          same("polynomial, a coefficient", (x, to) -> x.polynomial(to, from, asked, 10), row, apart);
          same("polynomial, the variable and a coefficient",
              (x, to) -> x.polynomial(to, from, asked, itself), row, apart);
        }
      }
      same("polynomial, the variable", (x, to) -> x.polynomial(to, 0, asked, 9), 9);
    }
  }

  /** The same by small dials, against numbers that are told here. */
  private static void numbersOfThem() {
    // rows 0, 1 and 2 are 7, 23 and 2: 23 * 23 is 529, 7 + 23 * 7 is 168, and 2 * 53 is 106
    int[] due = {14, 0, 49, 1, 529 % 105, 23 / 7, 53, 168 % 105};
    int[] rows = {0, 0, 0, 2, 1, 1, 2, 0};
    Check.Call[] calls = {x -> x.add(0, 0, 0), x -> x.subtract(0, 0, 0), x -> x.multiply(0, 0, 0),
        x -> x.divide(2, 2, 2), x -> x.power(1, 1, 2), x -> x.divideBy(1, 1, 2), x -> x.inverse(2, 2),
        x -> x.polynomial(0, 0, 2, 0)};
    for (int i = 0; i < calls.length; i++) {
      RemainderYard yard = Check.yard(3, 5, 7);
      yard.set(0, 7);
      yard.set(1, 23);
      yard.set(2, 2);
      Check.outcome(yard, calls[i]);
      check.same("by 3, 5 and 7, call " + i, Yards.number(yard, rows[i]), BigInteger.valueOf(due[i]));
    }
  }
}
