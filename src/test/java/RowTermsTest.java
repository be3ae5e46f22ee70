import java.math.BigInteger;
import java.util.LinkedHashMap;
import java.util.Map;

/** The paragraphs Rows and Mixed digits of the Terms: each sentence by itself. */
public final class RowTermsTest {
  private interface OnRow {
    Object on(RemainderYard yard, int row);
  }

  private static final Check check = new Check("RowTermsTest");

  public static void main(String[] args) {
    check.all(RowTermsTest.class);
  }

  /** Each call with a row, and with it in each place where a row is asked for. */
  private static Map<String, OnRow> callsWithRows() {
    Map<String, OnRow> calls = new LinkedHashMap<>();
    calls.put("set", (x, row) -> x.set(row, 5));
    calls.put("read", (x, row) -> x.read(row));
    calls.put("tell", (x, row) -> x.tell(row));
    calls.put("tellSigned", (x, row) -> x.tellSigned(row));
    calls.put("wheel", (x, row) -> x.wheel(row, 0));
    calls.put("turn", (x, row) -> x.turn(row, 0, 0));
    calls.put("copy to", (x, row) -> x.copy(row, 1));
    calls.put("copy from", (x, row) -> x.copy(1, row));
    calls.put("add to", (x, row) -> x.add(row, 1, 1));
    calls.put("add a", (x, row) -> x.add(1, row, 1));
    calls.put("add b", (x, row) -> x.add(1, 1, row));
    calls.put("subtract to", (x, row) -> x.subtract(row, 1, 1));
    calls.put("subtract a", (x, row) -> x.subtract(1, row, 1));
    calls.put("subtract b", (x, row) -> x.subtract(1, 1, row));
    calls.put("multiply to", (x, row) -> x.multiply(row, 1, 1));
    calls.put("multiply a", (x, row) -> x.multiply(1, row, 1));
    calls.put("multiply b", (x, row) -> x.multiply(1, 1, row));
    calls.put("power to", (x, row) -> x.power(row, 1, 2));
    calls.put("power a", (x, row) -> x.power(1, row, 2));
    calls.put("power to, below 0", (x, row) -> x.power(row, 1, -2));
    calls.put("power a, below 0", (x, row) -> x.power(1, row, -2));
    calls.put("inverse to", (x, row) -> x.inverse(row, 1));
    calls.put("inverse a", (x, row) -> x.inverse(1, row));
    calls.put("divide to", (x, row) -> x.divide(row, 1, 1));
    calls.put("divide a", (x, row) -> x.divide(1, row, 1));
    calls.put("divide b", (x, row) -> x.divide(1, 1, row));
    calls.put("divideBy to", (x, row) -> x.divideBy(row, 1, 0));
    calls.put("divideBy a", (x, row) -> x.divideBy(1, row, 0));
    calls.put("determinant to", (x, row) -> x.determinant(row, 0));
    calls.put("polynomial to", (x, row) -> x.polynomial(row, 0, 2, 1));
    calls.put("polynomial from, one", (x, row) -> x.polynomial(1, row, 1, 1));
    calls.put("polynomial at", (x, row) -> x.polynomial(1, 0, 2, row));
    calls.put("digit", (x, row) -> x.digit(row, 0));
    calls.put("compare a", (x, row) -> x.compare(row, 1));
    calls.put("compare b", (x, row) -> x.compare(1, row));
    calls.put("sign", (x, row) -> x.sign(row));
    calls.put("isOver a", (x, row) -> x.isOver(row, 1, '+'));
    calls.put("isOver b", (x, row) -> x.isOver(1, row, '*'));
    calls.put("isTrue", (x, row) -> x.isTrue(row));
    calls.put("find", (x, row) -> x.find(row));
    calls.put("mend", (x, row) -> x.mend(row));
    calls.put("setFraction", (x, row) -> x.setFraction(row, 1, 2));
    calls.put("fraction", (x, row) -> x.fraction(row));
    calls.put("told", (x, row) -> x.told(row, 1));
    return calls;
  }

  /** Each row is 104, so that it has an inverse and a fraction, and can be mended by the last dial. */
  private static RemainderYard twelve() {
    RemainderYard yard = Check.yard(3, 5, 7);
    yard.setSpare(1);
    for (int row = 0; row < 12; row++) {
      yard.set(row, 104);
    }
    Check.type(yard, "4");
    return yard;
  }

  private static void twelveRows() {
    callsWithRows().forEach((name, call) -> {
      for (int row : Yards.NO_ROWS) {
        check.refuses("'twelve rows, numbered from 0': " + name + " " + row, RowTermsTest::twelve,
            x -> call.on(x, row), Yards.ROW);
      }
      for (int row = 0; row < 12; row++) {
        int asked = row;
        Object got = Check.outcome(twelve(), x -> call.on(x, asked));
        check.same("'twelve rows, numbered from 0': " + name + " " + row + " is there",
            got instanceof Class, false);
      }
    });
    for (int first = 0; first <= 3; first++) {
      int from = first;
      Object got = Check.outcome(twelve(), x -> x.determinant(0, from));
      check.same("'twelve rows': determinant from " + first, got instanceof Class, false);
      got = Check.outcome(twelve(), x -> x.isEnough(from));
      check.same("'twelve rows': isEnough from " + first, got instanceof Class, false);
    }
  }

  private static void wheelForEachDial() {
    for (int dials = 0; dials <= 10; dials++) {
      RemainderYard yard = Check.yard(java.util.Arrays.copyOf(Yards.PRIMES, dials));
      yard.set(7, 1);
      yard.set(8, 1);
      int many = dials;
      for (int i = 0; i < many; i++) {
        check.same("'a wheel for each dial': wheel " + i, yard.wheel(7, i), 1);
        check.same("'a wheel for each dial': digit " + i, yard.digit(8, i), i == 0 ? 1 : 0);
        check.same("'a wheel for each dial': turn " + i, yard.turn(7, i, 0), 1);
      }
      for (int index : new int[] {-1, many, many + 1, Integer.MAX_VALUE, Integer.MIN_VALUE}) {
        String what = "'a wheel for each dial': " + index + " of " + many;
        check.same(what + ", wheel", Check.outcome(yard, x -> x.wheel(7, index)), Yards.NONE);
        check.same(what + ", digit", Check.outcome(yard, x -> x.digit(7, index)), Yards.NONE);
        check.same(what + ", turn", Check.outcome(yard, x -> x.turn(7, index, 0)), Yards.NONE);
        check.same(what + ", divideBy", Check.outcome(yard, x -> x.divideBy(7, 7, index)), Yards.NONE);
      }
    }
  }

  private static void placesFrom0ToTheDialLess1() {
    for (int dial : new int[] {2, 3, 10, 9999}) {
      RemainderYard yard = Check.yard(dial);
      String what = "'from 0 to the dial less 1', by " + dial + ": ";
      for (int place : new int[] {0, 1, dial - 1}) {
        yard.turn(4, 0, place);
        check.same(what + place, yard.wheel(4, 0), place);
      }
      for (int place : new int[] {-1, dial, dial + 1, Integer.MAX_VALUE, Integer.MIN_VALUE}) {
        check.same(what + place, Check.outcome(yard, x -> x.turn(4, 0, place)), Yards.RANGE);
      }
      check.same(what + "it stays", yard.wheel(4, 0), dial - 1);
    }
  }

  private static void allAtZeroAtFirst() {
    RemainderYard yard = Check.yard(Yards.PRIMES);
    for (int row = 0; row < 12; row++) {
      check.same("'all are at 0 at first': row " + row, Yards.row(yard, row), "0 0 0 0 0 0 0 0 0 0");
    }
  }

  private static void numberOfARow() {
    for (int number = 0; number < 180; number++) {
      RemainderYard yard = Check.yard(4, 9, 5);
      yard.turn(3, 0, number % 4);
      yard.turn(3, 1, number % 9);
      yard.turn(3, 2, number % 5);
      check.tells("'the number of a row': " + number, yard, yard.tell(3), Integer.toString(number));
    }
    BigInteger most = Yards.product(Yards.GREAT).subtract(BigInteger.ONE);
    RemainderYard great = Check.yard(Yards.GREAT);
    for (int i = 0; i < 10; i++) {
      great.turn(0, i, Yards.GREAT[i] - 1);
    }
    check.tells("'the product less 1': ten great dials", great, great.tell(0), most.toString());
  }

  private static void withoutDialsItIsZero() {
    RemainderYard yard = new RemainderYard();
    yard.set(2, 77);
    check.tells("'without dials it is 0': tell", yard, yard.tell(2), "0");
    check.tells("'without dials it is 0': tellSigned", yard, yard.tellSigned(2), "0");
    check.tells("'without dials it is 0': told", yard, yard.told(2, 0), "0");
    check.same("'without dials it is 0': sign", yard.sign(2), 0);
    check.same("'without dials it is 0': compare", yard.compare(2, 3), 0);
    check.same("'without dials it is 0': isTrue", yard.isTrue(2), true);
    check.same("'without dials it is 0': find", yard.find(2), -1);
    check.same("'without dials it is 0': isOver, sum", yard.isOver(2, 2, '+'), false);
    check.same("'without dials it is 0': isOver, product", yard.isOver(2, 2, '*'), false);
    check.same("'without dials it is 0': isEnough", yard.isEnough(2), true);
    RemainderYard gone = Check.yard(9);
    gone.set(5, 8);
    gone.dropDial(0);
    check.tells("'without dials it is 0': the only one has gone", gone, gone.tell(5), "0");
    gone.addDial(7);
    check.same("'without dials it is 0': and one comes", gone.wheel(5, 0), 0);
  }

  private static void remaindersBelowZero() {
    int dial = 7;
    for (int number = -22; number < 0; number++) {
      int due = Math.floorMod(number, dial);
      RemainderYard yard = Check.yard(dial);
      yard.set(0, number);
      check.same("'a number below 0': set " + number, yard.wheel(0, 0), due);
      Check.type(yard, Integer.toString(number));
      yard.read(1);
      check.same("'a number below 0': read " + number, yard.wheel(1, 0), due);
      yard.setFraction(2, number, 1);
      check.same("'a number below 0': setFraction " + number + "/1", yard.wheel(2, 0), due);
      yard.set(3, -number);
      yard.subtract(3, 11, 3);
      check.same("'a number below 0': 0 less " + -number, yard.wheel(3, 0), due);
      yard.forget();
      yard.meet(number, dial);
      check.tells("'a number below 0': meet " + number, yard, yard.meeting(), Integer.toString(due));
    }
  }

  private static void dialComesNumbersStay() {
    RemainderYard yard = Check.yard(7, 9);
    for (int row = 0; row < 12; row++) {
      yard.set(row, row < 11 ? 5L * row : 62);
    }
    for (int dial : new int[] {8, 5, 11}) {
      yard.addDial(dial);
      for (int row = 0; row < 12; row++) {
        int number = row < 11 ? 5 * row : 62;
        check.tells("'the number of each row stays': row " + row + ", a dial " + dial, yard,
            yard.tell(row), Integer.toString(number));
        check.same("'the number of each row stays': its wheel", yard.wheel(row, yard.dials() - 1),
            number % dial);
      }
    }
  }

  private static void dialComesFalseNumbersStay() {
    RemainderYard yard = Check.yard(7, 9, 8);
    yard.setSpare(2);
    yard.set(0, 503);
    yard.set(1, 7);
    yard.addDial(5);
    check.tells("'the number of each row stays': a false row", yard, yard.tell(0), "503");
    check.tells("'the number of each row stays': one just false", yard, yard.tell(1), "7");
    check.same("'the number of each row stays': it is true now", yard.isTrue(1), true);
  }

  private static void dialComesSignedNumberDoesNot() {
    RemainderYard yard = Check.yard(3, 5, 7);
    yard.set(0, -1);
    yard.addDial(11);
    check.rowIs("'the number of each row stays', not the signed one", yard, 0, 2, 4, 6, 104 % 11);
    check.tells("'the number of each row stays', not the signed one", yard, yard.tellSigned(0), "104");
  }

  private static void dialGoesOtherWheelsStay() {
    int[] places = {1, 2, 4, 6, 10};
    for (int gone = 0; gone < 5; gone++) {
      RemainderYard yard = Check.yard(2, 3, 5, 7, 11);
      yard.set(0, -1);
      yard.set(11, -2);
      yard.dropDial(gone);
      for (int i = 0; i < 4; i++) {
        int was = i < gone ? i : i + 1;
        check.same("'the other ones stay as they are': without " + gone, yard.wheel(0, i), places[was]);
        check.same("'the other ones stay as they are': the last row", yard.wheel(11, i), places[was] - 1);
      }
    }
    RemainderYard number = Check.yard(3, 5, 7);
    number.set(0, 100);
    number.dropDial(0);
    check.tells("'its wheels go': the number is that of the others", number, number.tell(0), "30");
  }

  private static void dialGoesAndComesAgain() {
    RemainderYard yard = Check.yard(3, 5);
    yard.set(0, 14);
    yard.dropDial(1);
    yard.addDial(5);
    check.rowIs("'its wheels go': the wheel that comes tells the number", yard, 0, 2, 2);
  }

  private static void signedNumber() {
    RemainderYard yard = Check.yard(3, 5, 7);
    for (int number = 0; number < 105; number++) {
      int due = 2 * number < 105 ? number : number - 105;
      yard = Check.yard(3, 5, 7);
      yard.set(6, number);
      check.tells("'if twice that is below the product': " + number, yard, yard.tellSigned(6),
          Integer.toString(due));
      check.same("'if twice that is below the product': sign " + number, yard.sign(6),
          Integer.signum(due));
    }
  }

  private static void signedNumberAtHalf() {
    int[][] yards = {{2}, {4}, {2, 9999}, {3, 64, 5}, Yards.PRIMES, Yards.GREAT};
    for (int[] dials : yards) {
      RemainderYard yard = Check.yard(dials);
      BigInteger half = Yards.product(dials).shiftRight(1);
      String what = "twice it is just the product, " + Yards.product(dials) + ": ";
      Yards.put(yard, 0, half);
      check.tells(what + "tellSigned", yard, yard.tellSigned(0), half.negate().toString());
      check.same(what + "sign", yard.sign(0), -1);
      BigInteger below = half.subtract(BigInteger.ONE);
      Yards.put(yard, 0, below);
      check.tells(what + "less by 1, tellSigned", yard, yard.tellSigned(0), below.toString());
      check.same(what + "less by 1, sign", yard.sign(0), below.signum());
    }
  }

  private static void trueRows() {
    int[][] yards = {{7}, {3, 5}, {9999, 9998}, Yards.PRIMES, Yards.GREAT};
    for (int[] dials : yards) {
      for (int spare = 1; spare <= dials.length; spare++) {
        RemainderYard yard = Check.yard(dials);
        yard.setSpare(spare);
        BigInteger main = Yards.product(java.util.Arrays.copyOf(dials, dials.length - spare));
        Yards.put(yard, 0, main.subtract(BigInteger.ONE));
        check.same("'below the product of the main dials': less by 1", yard.isTrue(0), true);
        Yards.put(yard, 0, main);
        check.same("'below the product of the main dials': it itself", yard.isTrue(0), false);
        Yards.put(yard, 0, BigInteger.ONE.negate());
        check.same("'below the product of the main dials': the greatest", yard.isTrue(0), false);
      }
    }
  }

  private static void trueRowsWhereAllAreSpare() {
    RemainderYard yard = Check.yard(2, 3);
    yard.setSpare(2);
    for (int number = 0; number < 6; number++) {
      yard.set(0, number);
      check.same("all dials are spare: " + number, yard.isTrue(0), number == 0);
      check.same("all dials are spare: find " + number, yard.find(0) == -1, number == 0);
    }
  }

  private static void mixedDigits() {
    for (int number = 0; number < 180; number++) {
      RemainderYard yard = Check.yard(4, 9, 5);
      yard.set(9, number);
      check.same("'its first digit': " + number, yard.digit(9, 0), number % 4);
      check.same("'the second one times the first dial': " + number, yard.digit(9, 1), number / 4 % 9);
      check.same("'the third one times the first two': " + number, yard.digit(9, 2), number / 36);
    }
  }

  private static void mixedDigitsInTheOrderOfDials() {
    int[][] orders = {{4, 9, 5}, {5, 9, 4}, {9, 4, 5}};
    for (int[] dials : orders) {
      RemainderYard yard = Check.yard(dials);
      yard.set(0, 178);
      int left = 178;
      for (int i = 0; i < 3; i++) {
        check.same("mixed digits, in the order of the dials", yard.digit(0, i), left % dials[i]);
        left /= dials[i];
      }
    }
    RemainderYard spare = Check.yard(4, 9, 5);
    spare.setSpare(2);
    spare.set(0, 178);
    check.same("mixed digits by spare dials too", spare.digit(0, 2), 4);
  }

  private static void mixedDigitsAtTheirEnds() {
    RemainderYard yard = Check.yard(Yards.GREAT);
    yard.set(0, -1);
    for (int i = 0; i < 10; i++) {
      check.same("'each digit is from 0 to its dial less 1': the greatest", yard.digit(0, i),
          Yards.GREAT[i] - 1);
      check.same("'each digit is from 0 to its dial less 1': the least", yard.digit(1, i), 0);
    }
    BigInteger weight = BigInteger.ONE;
    for (int i = 0; i < 10; i++) {
      Yards.put(yard, 2, weight);
      for (int j = 0; j < 10; j++) {
        check.same("a digit 1 at " + i + ", digit " + j, yard.digit(2, j), i == j ? 1 : 0);
      }
      weight = weight.multiply(BigInteger.valueOf(Yards.GREAT[i]));
    }
  }

  private static void isNumberThen() {
    BigInteger product = Yards.product(Yards.GREAT);
    BigInteger one = BigInteger.ONE;
    BigInteger[] numbers = {one.negate(), BigInteger.ZERO, product.subtract(one), product,
        product.add(one), product.negate(), product.negate().add(one)};
    boolean[] due = {false, true, true, false, false, false, false};
    for (int i = 0; i < numbers.length; i++) {
      RemainderYard yard = Check.yard(Yards.GREAT);
      check.same("read: 'whether that is its number then', " + numbers[i],
          Yards.put(yard, 0, numbers[i]), due[i]);
      check.same("read: the row, " + numbers[i], Yards.number(yard, 0), numbers[i].mod(product));
    }
    long[] longs = {-1, 0, 1, 104, 105, 106, 209, 210, -104, -105, -106};
    for (long number : longs) {
      RemainderYard yard = Check.yard(3, 5, 7);
      check.same("set: 'whether that is its number then', " + number, yard.set(0, number),
          number >= 0 && number < 105);
      check.same("set: the row, " + number, Yards.number(yard, 0).longValue(),
          Math.floorMod(number, 105L));
    }
  }

  private static void wheelsAtZero() {
    for (int number = 0; number < 30; number++) {
      int due = (number % 2 == 0 ? 1 : 0) + (number % 3 == 0 ? 1 : 0) + (number % 5 == 0 ? 1 : 0);
      RemainderYard yard = Check.yard(2, 3, 5);
      yard.set(1, number);
      yard.set(2, 1);
      String what = "'how many of its wheels are at 0 then', " + number + ": ";
      check.same(what + "copy", yard.copy(3, 1), due);
      check.same(what + "add", yard.add(3, 1, 0), due);
      check.same(what + "subtract", yard.subtract(3, 1, 0), due);
      check.same(what + "multiply", yard.multiply(3, 1, 2), due);
      check.same(what + "power", yard.power(3, 1, 3), due);
      check.same(what + "divide", yard.divide(3, 1, 2), due);
      check.same(what + "polynomial", yard.polynomial(3, 1, 1, 0), due);
      // the lines are 0 0 number, 1 0 0, 0 1 0
      RemainderYard grid = Check.yard(2, 3, 5);
      grid.set(4, number);
      grid.set(5, 1);
      grid.set(9, 1);
      check.same(what + "determinant", grid.determinant(0, 2), due);
    }
  }
}
