import java.util.ArrayList;
import java.util.List;

/**
 * The paragraph Exceptions of the Terms: for each call and each row of its 'Throws' a test, and for
 * each two of them that can apply at once another one; behind each of them nothing has changed.
 */
public final class ExceptionsTest {
  private static final int LEAST = Integer.MIN_VALUE;
  private static final int MOST = Integer.MAX_VALUE;
  private static final Check check = new Check("ExceptionsTest");

  public static void main(String[] args) {
    addDial();
    addDialTwoAtOnce();
    dials();
    text();
    read();
    wheelAndDigit();
    turn();
    turnTwoAtOnce();
    sums();
    power();
    inverseAndDivide();
    divideBy();
    determinantAndIsEnough();
    polynomial();
    polynomialTwoAtOnce();
    isOver();
    mend();
    setFraction();
    setFractionTwoAtOnce();
    fraction();
    told();
    meet();
    meeting();
    undo();
    check.end();
  }

  /** The call is refused in each of these yards, and changes nothing in it. */
  private static void refused(String what, Check.Call call, Class<?> due, Check.Maker... makers) {
    for (int i = 0; i < makers.length; i++) {
      check.refuses(what + ", yard " + i, makers[i], call, due);
    }
  }

  private static void refusedInAll(String what, Check.Call call, Class<?> due) {
    refused(what, call, due, RemainderYard::new, Yards::crowded, Yards::full);
  }

  private static void refusedWithDials(String what, Check.Call call, Class<?> due) {
    refused(what, call, due, Yards::crowded, Yards::full);
  }

  private static Check.Maker typed(Check.Maker maker, String text) {
    return () -> {
      RemainderYard yard = maker.make();
      yard.erase();
      Check.type(yard, text);
      return yard;
    };
  }

  private static void addDial() {
    for (int dial : new int[] {LEAST, -1, 0, 1, 10000, MOST}) {
      refusedInAll("addDial: out of range, " + dial, x -> x.addDial(dial), Yards.RANGE);
    }
    for (int dial : new int[] {3, 9, 10, 13, 9999, 9997}) {
      refusedWithDials("addDial: a common divisor, " + dial, x -> x.addDial(dial), Yards.CLASH);
    }
    for (int dial : new int[] {31, 9973, 37 * 41}) {
      refused("addDial: ten, " + dial, x -> x.addDial(dial), Yards.FULL, Yards::full);
    }
  }

  private static void addDialTwoAtOnce() {
    for (int dial : new int[] {0, -3, -15, 10005, 15015, 30030, -30030}) {
      refusedWithDials("addDial: out of range and a common divisor, " + dial, x -> x.addDial(dial),
          Yards.RANGE);
    }
    for (int dial : new int[] {1, -1, 10007, -31}) {
      refused("addDial: out of range and ten, " + dial, x -> x.addDial(dial), Yards.RANGE, Yards::full);
    }
    for (int dial : new int[] {2, 29, 9999, 9998, 31 * 7}) {
      refused("addDial: a common divisor and ten, " + dial, x -> x.addDial(dial), Yards.CLASH,
          Yards::full);
    }
    for (int dial : new int[] {0, 10000, -2, 20000}) {
      refused("addDial: all three, " + dial, x -> x.addDial(dial), Yards.RANGE, Yards::full);
    }
  }

  private static void dials() {
    for (int dial : new int[] {LEAST, -1, 0, 1, 10000, 15015, MOST}) {
      refusedInAll("clash: out of range, " + dial, x -> x.clash(dial), Yards.RANGE);
    }
    for (int index : new int[] {LEAST, -1, 10, MOST}) {
      refusedInAll("dropDial: no such dial, " + index, x -> x.dropDial(index), Yards.NONE);
      refusedInAll("dialAt: no such dial, " + index, x -> x.dialAt(index), Yards.NONE);
    }
    refused("dropDial: no such dial, 5 of 5", x -> x.dropDial(5), Yards.NONE, Yards::crowded);
    refused("dialAt: no such dial, 5 of 5", x -> x.dialAt(5), Yards.NONE, Yards::crowded);
    refused("dropDial: without dials", x -> x.dropDial(0), Yards.NONE, RemainderYard::new);
    refused("dialAt: without dials", x -> x.dialAt(0), Yards.NONE, RemainderYard::new);
    for (int many : new int[] {LEAST, -1, 11, MOST}) {
      refusedInAll("setSpare: " + many, x -> x.setSpare(many), Yards.RANGE);
    }
    refused("setSpare: 6 of 5", x -> x.setSpare(6), Yards.RANGE, Yards::crowded);
    refused("setSpare: 1 of none", x -> x.setSpare(1), Yards.RANGE, RemainderYard::new);
    for (int k : new int[] {LEAST, -1, 0, 11, MOST}) {
      refusedInAll("open: out of range, " + k, x -> x.open(k), Yards.RANGE);
    }
    refused("open: 6 of 5", x -> x.open(6), Yards.RANGE, Yards::crowded);
    refused("open: 1 of none", x -> x.open(1), Yards.RANGE, RemainderYard::new);
  }

  private static void text() {
    for (int code : new int[] {0, 31, 127, 255, 65535}) {
      char sign = (char) code;
      refusedInAll("type: no such code, " + code, x -> x.type(sign), Yards.RANGE);
      refused("type: no such code and 80 signs, " + code, x -> x.type(sign), Yards.RANGE, Yards::full);
    }
    for (char sign : new char[] {' ', '5', '~'}) {
      refused("type: 80 signs, '" + sign + "'", x -> x.type(sign), Yards.FULL, Yards::full);
    }
    for (int place : new int[] {LEAST, -1, 80, MOST}) {
      refusedInAll("signAt: no such place, " + place, x -> x.signAt(place), Yards.RANGE);
    }
    refused("signAt: 4 of 4", x -> x.signAt(4), Yards.RANGE, Yards::crowded);
    refused("signAt: an empty text", x -> x.signAt(0), Yards.RANGE, RemainderYard::new);
  }

  private static void read() {
    Check.Maker[] makers = {RemainderYard::new, Yards::crowded, Yards::full};
    for (Check.Maker maker : makers) {
      for (int row : Yards.NO_ROWS) {
        refused("read: no such row, " + row, x -> x.read(row), Yards.ROW, typed(maker, "23"));
        refused("read: no such row and no number, " + row, x -> x.read(row), Yards.ROW,
            typed(maker, ""), typed(maker, "x"), typed(maker, "9".repeat(79) + "-"));
      }
      for (int row : new int[] {0, 4, 11}) {
        refused("read: no number, row " + row, x -> x.read(row), Yards.NO_NUMBER, typed(maker, ""),
            typed(maker, "-"), typed(maker, "1 "), typed(maker, "9".repeat(79) + "-"));
      }
    }
  }

  private static void wheelAndDigit() {
    int[] noDials = {LEAST, -1, 10, MOST};
    for (int row : Yards.NO_ROWS) {
      refusedWithDials("wheel: no such row, " + row, x -> x.wheel(row, 0), Yards.ROW);
      refusedWithDials("digit: no such row, " + row, x -> x.digit(row, 0), Yards.ROW);
      for (int index : noDials) {
        refusedInAll("wheel: no such row and no such dial, " + row, x -> x.wheel(row, index), Yards.ROW);
        refusedInAll("digit: no such row and no such dial, " + row, x -> x.digit(row, index), Yards.ROW);
      }
    }
    for (int index : noDials) {
      refusedInAll("wheel: no such dial, " + index, x -> x.wheel(11, index), Yards.NONE);
      refusedInAll("digit: no such dial, " + index, x -> x.digit(11, index), Yards.NONE);
    }
    refused("wheel: dial 5 of 5", x -> x.wheel(0, 5), Yards.NONE, Yards::crowded);
    refused("digit: dial 5 of 5", x -> x.digit(0, 5), Yards.NONE, Yards::crowded);
    refused("wheel: without dials", x -> x.wheel(0, 0), Yards.NONE, RemainderYard::new);
    refused("digit: without dials", x -> x.digit(0, 0), Yards.NONE, RemainderYard::new);
  }

  private static void turn() {
    for (int row : Yards.NO_ROWS) {
      refusedWithDials("turn: no such row, " + row, x -> x.turn(row, 0, 1), Yards.ROW);
    }
    for (int index : new int[] {LEAST, -1, 10, MOST}) {
      refusedInAll("turn: no such dial, " + index, x -> x.turn(3, index, 0), Yards.NONE);
    }
    refused("turn: dial 5 of 5", x -> x.turn(3, 5, 0), Yards.NONE, Yards::crowded);
    refused("turn: without dials", x -> x.turn(3, 0, 0), Yards.NONE, RemainderYard::new);
    for (int place : new int[] {LEAST, -1, 13, MOST}) {
      refusedWithDials("turn: no such place, " + place, x -> x.turn(3, 0, place), Yards.RANGE);
    }
    refused("turn: place 3 by 3", x -> x.turn(3, 0, 3), Yards.RANGE, Yards::crowded);
    refused("turn: place 13 by 13", x -> x.turn(3, 4, 13), Yards.RANGE, Yards::crowded);
    refused("turn: place 29 by 29", x -> x.turn(3, 9, 29), Yards.RANGE, Yards::full);
  }

  private static void turnTwoAtOnce() {
    for (int row : Yards.NO_ROWS) {
      refusedInAll("turn: no such row and no such dial", x -> x.turn(row, 10, 0), Yards.ROW);
      refusedInAll("turn: no such row and no such dial", x -> x.turn(row, -1, 0), Yards.ROW);
      refusedWithDials("turn: no such row and no such place", x -> x.turn(row, 0, 9999), Yards.ROW);
      refusedWithDials("turn: no such row and no such place", x -> x.turn(row, 0, -1), Yards.ROW);
      refusedInAll("turn: all three", x -> x.turn(row, 10, -1), Yards.ROW);
    }
    for (int place : new int[] {LEAST, -1, 9999, MOST}) {
      refusedInAll("turn: no such dial and no such place", x -> x.turn(3, 10, place), Yards.NONE);
      refusedInAll("turn: no such dial and no such place", x -> x.turn(3, -1, place), Yards.NONE);
    }
  }

  /** The calls that ask for rows alone. */
  private static void sums() {
    for (int row : Yards.NO_ROWS) {
      List<Check.Call> calls = new ArrayList<>(List.of(x -> x.set(row, 5), x -> x.tell(row),
          x -> x.tellSigned(row), x -> x.copy(row, 1), x -> x.copy(1, row), x -> x.copy(row, row)));
      calls.addAll(List.of(x -> x.add(row, 1, 2), x -> x.add(1, row, 2), x -> x.add(1, 2, row)));
      calls.addAll(List.of(x -> x.subtract(row, 1, 2), x -> x.subtract(1, row, 2),
          x -> x.subtract(1, 2, row), x -> x.multiply(row, 1, 2), x -> x.multiply(1, row, 2),
          x -> x.multiply(1, 2, row)));
      calls.addAll(List.of(x -> x.compare(row, 1), x -> x.compare(1, row), x -> x.sign(row),
          x -> x.isTrue(row), x -> x.find(row)));
      for (int i = 0; i < calls.size(); i++) {
        refusedInAll("no such row, " + row + ", call " + i, calls.get(i), Yards.ROW);
      }
    }
  }

  private static void power() {
    for (int row : Yards.NO_ROWS) {
      for (int exponent : new int[] {LEAST, -1, 0, 1, MOST}) {
        refusedInAll("power: no such row, exponent " + exponent, x -> x.power(row, 1, exponent), Yards.ROW);
        refusedInAll("power: no such row a, exponent " + exponent, x -> x.power(1, row, exponent),
            Yards.ROW);
      }
      refusedWithDials("power: no such row and no inverse", x -> x.power(row, 0, -1), Yards.ROW);
      refusedWithDials("power: no such row and no inverse", x -> x.power(row, 0, LEAST), Yards.ROW);
    }
    for (int exponent : new int[] {LEAST, -2, -1}) {
      refusedWithDials("power: no inverse, exponent " + exponent, x -> x.power(1, 0, exponent),
          Yards.ARITHMETIC);
      refusedWithDials("power: no inverse, to itself, exponent " + exponent,
          x -> x.power(0, 0, exponent), Yards.ARITHMETIC);
    }
  }

  private static void inverseAndDivide() {
    for (int row : Yards.NO_ROWS) {
      refusedInAll("inverse: no such row", x -> x.inverse(row, 1), Yards.ROW);
      refusedInAll("inverse: no such row a", x -> x.inverse(1, row), Yards.ROW);
      refusedWithDials("inverse: no such row and none", x -> x.inverse(row, 0), Yards.ROW);
      refusedInAll("divide: no such row", x -> x.divide(row, 1, 1), Yards.ROW);
      refusedInAll("divide: no such row a", x -> x.divide(1, row, 1), Yards.ROW);
      refusedInAll("divide: no such row b", x -> x.divide(1, 1, row), Yards.ROW);
      refusedWithDials("divide: no such row and no inverse", x -> x.divide(row, 1, 0), Yards.ROW);
      refusedWithDials("divide: no such row a and no inverse", x -> x.divide(1, row, 0), Yards.ROW);
    }
    refusedWithDials("inverse: none", x -> x.inverse(1, 0), Yards.ARITHMETIC);
    refusedWithDials("inverse: none, to itself", x -> x.inverse(0, 0), Yards.ARITHMETIC);
    refusedWithDials("divide: no inverse", x -> x.divide(1, 2, 0), Yards.ARITHMETIC);
    refusedWithDials("divide: no inverse, to itself", x -> x.divide(0, 2, 0), Yards.ARITHMETIC);
    refusedWithDials("divide: no inverse, by itself", x -> x.divide(1, 0, 0), Yards.ARITHMETIC);
  }

  private static void divideBy() {
    int[] noDials = {LEAST, -1, 10, MOST};
    for (int row : Yards.NO_ROWS) {
      refusedWithDials("divideBy: no such row", x -> x.divideBy(row, 1, 0), Yards.ROW);
      refusedWithDials("divideBy: no such row a", x -> x.divideBy(1, row, 0), Yards.ROW);
      for (int index : noDials) {
        refusedInAll("divideBy: no such row and no such dial", x -> x.divideBy(row, 1, index), Yards.ROW);
        refusedInAll("divideBy: no such row a and no such dial", x -> x.divideBy(1, row, index),
            Yards.ROW);
      }
    }
    for (int index : noDials) {
      refusedInAll("divideBy: no such dial", x -> x.divideBy(1, 2, index), Yards.NONE);
    }
    refused("divideBy: dial 5 of 5", x -> x.divideBy(1, 2, 5), Yards.NONE, Yards::crowded);
    refused("divideBy: without dials", x -> x.divideBy(1, 2, 0), Yards.NONE, RemainderYard::new);
  }

  private static void determinantAndIsEnough() {
    for (int row : Yards.NO_ROWS) {
      refusedInAll("determinant: no such row", x -> x.determinant(row, 0), Yards.ROW);
      refusedInAll("determinant: no such row", x -> x.determinant(row, 3), Yards.ROW);
    }
    for (int first : new int[] {LEAST, -9, -8, -1, 4, 5, 11, 12, MOST - 8, MOST - 7, MOST}) {
      refusedInAll("determinant: no such row, first " + first, x -> x.determinant(0, first), Yards.ROW);
      refusedInAll("isEnough: no such row, first " + first, x -> x.isEnough(first), Yards.ROW);
    }
  }

  private static void polynomial() {
    for (int many : new int[] {LEAST, -1, 0, 7, 12, MOST}) {
      refusedInAll("polynomial: how many, " + many, x -> x.polynomial(0, 1, many, 2), Yards.RANGE);
    }
    for (int many = 1; many <= 6; many++) {
      int asked = many;
      for (int row : Yards.NO_ROWS) {
        refusedInAll("polynomial: no such row", x -> x.polynomial(row, 1, asked, 2), Yards.ROW);
        refusedInAll("polynomial: no such row at", x -> x.polynomial(0, 1, asked, row), Yards.ROW);
      }
      for (int first : new int[] {LEAST, -asked, -1, 13 - asked, 12, MOST - asked, MOST - asked + 1,
          MOST - asked + 2, MOST}) {
        refusedInAll("polynomial: no such row, first " + first + ", many " + many,
            x -> x.polynomial(0, first, asked, 2), Yards.ROW);
      }
    }
  }

  private static void polynomialTwoAtOnce() {
    for (int many : new int[] {LEAST, -1, 0, 7, MOST}) {
      for (int row : Yards.NO_ROWS) {
        refusedInAll("polynomial: how many and no such row", x -> x.polynomial(row, 1, many, 2),
            Yards.RANGE);
        refusedInAll("polynomial: how many and no such row first", x -> x.polynomial(0, row, many, 2),
            Yards.RANGE);
        refusedInAll("polynomial: how many and no such row at", x -> x.polynomial(0, 1, many, row),
            Yards.RANGE);
        refusedInAll("polynomial: how many and no row at all", x -> x.polynomial(row, row, many, row),
            Yards.RANGE);
      }
      refusedInAll("polynomial: how many and rows beyond the last", x -> x.polynomial(0, 11, many, 2),
          Yards.RANGE);
    }
  }

  private static void isOver() {
    for (int row : Yards.NO_ROWS) {
      for (char act : new char[] {'+', '*'}) {
        refusedInAll("isOver: no such row a, " + act, x -> x.isOver(row, 1, act), Yards.ROW);
        refusedInAll("isOver: no such row b, " + act, x -> x.isOver(1, row, act), Yards.ROW);
      }
      for (char act : new char[] {'-', 0, 'x'}) {
        refusedInAll("isOver: no such row a and no such act", x -> x.isOver(row, 1, act), Yards.ROW);
        refusedInAll("isOver: no such row b and no such act", x -> x.isOver(1, row, act), Yards.ROW);
      }
    }
    for (char act : new char[] {0, ' ', ')', ',', '-', '.', '/', 'x', 555, 554, 65535}) {
      refusedInAll("isOver: no such act, " + (int) act, x -> x.isOver(1, 2, act), Yards.RANGE);
    }
  }

  private static void mend() {
    for (int row : Yards.NO_ROWS) {
      refusedInAll("mend: no such row", x -> x.mend(row), Yards.ROW);
    }
    refusedMend(-1, 1, RemainderYard::new);
    refusedMend(-1, 1, Yards::crowded);
    refusedMend(-1, 0, falseRow(29, 1));
    refusedMend(-2, 0, falseRow(100, 2));
    refusedMend(-3, 0, falseRow(100, 1));
  }

  private static void refusedMend(int found, int row, Check.Maker maker) {
    check.same("mend: what find() tells", maker.make().find(row), found);
    refused("mend: find() tells " + found, x -> x.mend(row), Yards.NONE, maker);
  }

  private static Check.Maker falseRow(int number, int spare) {
    return () -> {
      RemainderYard yard = Check.yard(2, 3, 5, 7);
      yard.set(3, 1);
      yard.setSpare(spare);
      yard.set(0, number);
      Check.type(yard, "t");
      return yard;
    };
  }

  private static void setFraction() {
    for (int row : Yards.NO_ROWS) {
      refusedInAll("setFraction: no such row", x -> x.setFraction(row, 3, 1), Yards.ROW);
    }
    for (long above : new long[] {Long.MIN_VALUE, -1, 0, 1, Long.MAX_VALUE}) {
      refusedInAll("setFraction: 0 below the line", x -> x.setFraction(0, above, 0), Yards.ARITHMETIC);
      for (long below : new long[] {3, -3, 13, -13, 5005, -5005, 9223372036854775805L}) {
        refusedWithDials("setFraction: a common divisor, " + below, x -> x.setFraction(0, above, below),
            Yards.ARITHMETIC);
      }
      refused("setFraction: a common divisor 2, the least", x -> x.setFraction(0, above, Long.MIN_VALUE),
          Yards.ARITHMETIC, Yards::full);
    }
  }

  private static void setFractionTwoAtOnce() {
    for (int row : Yards.NO_ROWS) {
      refusedInAll("setFraction: no such row and 0 below the line", x -> x.setFraction(row, 1, 0), Yards.ROW);
      for (long below : new long[] {3, -5, 13, -1001}) {
        refusedWithDials("setFraction: no such row and a common divisor", x -> x.setFraction(row, 1, below),
            Yards.ROW);
      }
    }
  }

  private static void fraction() {
    for (int row : Yards.NO_ROWS) {
      refusedInAll("fraction: no such row", x -> x.fraction(row), Yards.ROW);
    }
    refused("fraction: there is none", x -> x.fraction(0), Yards.NONE, RemainderYard::new,
        falseRow(37, 2), falseRow(100, 0));
    refused("fraction: there is none, of 0 by 2", x -> x.fraction(0), Yards.NONE, () -> Check.yard(2));
  }

  private static void told() {
    for (int row : Yards.NO_ROWS) {
      refusedInAll("told: no such row", x -> x.told(row, 0), Yards.ROW);
      for (int set : new int[] {LEAST, -1, 1024, MOST}) {
        refusedInAll("told: no such row and no such set", x -> x.told(row, set), Yards.ROW);
      }
    }
    for (int set : new int[] {LEAST, LEAST + 1, -1, 1024, 1025, MOST}) {
      refusedInAll("told: a set " + set, x -> x.told(1, set), Yards.RANGE);
    }
    for (int set : new int[] {32, 33, 63, 64, 1023}) {
      refused("told: a set " + set + " of 5", x -> x.told(1, set), Yards.RANGE, Yards::crowded);
    }
    refused("told: a set 1 of none", x -> x.told(1, 1), Yards.RANGE, RemainderYard::new);
  }

  private static void meet() {
    for (int dial : new int[] {LEAST, -1, 0, 10000, MOST}) {
      for (int number : new int[] {LEAST, 0, MOST}) {
        refusedInAll("meet: out of range, " + dial, x -> x.meet(number, dial), Yards.RANGE);
        refused("meet: out of range and eight, " + dial, x -> x.meet(number, dial), Yards.RANGE,
            Yards::full);
      }
    }
    for (int dial : new int[] {1, 2, 9999}) {
      refused("meet: eight, " + dial, x -> x.meet(0, dial), Yards.FULL, Yards::full);
    }
  }

  private static void meeting() {
    refused("meeting: there is none", x -> x.meeting(), Yards.NONE, Yards::full, () -> {
      RemainderYard yard = Yards.crowded();
      yard.meet(4, 6);
      return yard;
    });
  }

  private static void undo() {
    refused("undo: no call is kept", x -> x.undo(), Yards.NONE, RemainderYard::new, () -> {
      RemainderYard yard = Yards.crowded();
      yard.addDial(17);
      return yard;
    }, () -> {
      RemainderYard yard = Yards.full();
      yard.dropDial(3);
      return yard;
    });
  }
}
