import java.util.ArrayList;
import java.util.List;

/**
 * Each row of 'Throws' by itself, at its bounds: 'a method that throws an exception changes nothing'.
 * The row that would become something is 1 where it can be, since none of its wheels is at 0.
 */
public final class ExceptionsTest {
  private static final int LEAST = Integer.MIN_VALUE;
  private static final int MOST = Integer.MAX_VALUE;
  private static final int[] NO_DIALS = {LEAST, -1, 10, 256, 65536, 1 << 24, MOST};
  private static final Check check = new Check("ExceptionsTest");

  public static void main(String[] args) {
    check.all(ExceptionsTest.class);
  }

  private static void addDialOutOfRange() {
    for (int dial : new int[] {LEAST, -1, 0, 1, 10000, 65536 + 17, (1 << 24) + 31, LEAST + 31, MOST}) {
      check.refused("addDial " + dial, x -> x.addDial(dial), Yards.RANGE, Yards.ALL);
    }
  }

  private static void addDialWithACommonDivisor() {
    for (int dial : new int[] {3, 9, 10, 13, 9999, 9997}) {
      check.refused("addDial " + dial, x -> x.addDial(dial), Yards.CLASH, Yards::crowded);
    }
  }

  private static void addDialIfThereAreTen() {
    for (int dial : new int[] {31, 9973, 37 * 41}) {
      check.refused("addDial " + dial, x -> x.addDial(dial), Yards.FULL, Yards::full);
    }
  }

  private static void clashOutOfRange() {
    for (int dial : new int[] {LEAST, -1, 0, 1, 10000, 15015, 65536 + 17, (1 << 24) + 31, LEAST + 31,
        MOST}) {
      check.refused("clash " + dial, x -> x.clash(dial), Yards.RANGE, Yards.ALL);
    }
  }

  private static void dropDialIfThereIsNone() {
    for (int index : NO_DIALS) {
      check.refused("dropDial " + index, x -> x.dropDial(index), Yards.NONE, Yards.ALL);
    }
    check.refused("dropDial 5 of 5", x -> x.dropDial(5), Yards.NONE, Yards::crowded);
    check.refused("dropDial 0 of none", x -> x.dropDial(0), Yards.NONE, RemainderYard::new);
  }

  private static void dialAtIfThereIsNone() {
    for (int index : NO_DIALS) {
      check.refused("dialAt " + index, x -> x.dialAt(index), Yards.NONE, Yards.ALL);
    }
    check.refused("dialAt 5 of 5", x -> x.dialAt(5), Yards.NONE, Yards::crowded);
    check.refused("dialAt 0 of none", x -> x.dialAt(0), Yards.NONE, RemainderYard::new);
  }

  private static void setSpareBelowZeroOrAbove() {
    for (int many : new int[] {LEAST, -1, 11, 256, 65536, 1 << 24, MOST}) {
      check.refused("setSpare " + many, x -> x.setSpare(many), Yards.RANGE, Yards.ALL);
    }
    check.refused("setSpare 6 of 5", x -> x.setSpare(6), Yards.RANGE, Yards::crowded);
    check.refused("setSpare 1 of none", x -> x.setSpare(1), Yards.RANGE, RemainderYard::new);
  }

  private static void typeOfNoCode() {
    for (int code : new int[] {0, 9, 31, 127, 255, 8364, 65535}) {
      check.refused("type, code " + code, x -> x.type((char) code), Yards.RANGE, RemainderYard::new,
          Yards::crowded);
    }
  }

  private static void typeIfThereAre80() {
    for (char sign : new char[] {' ', '5', '~'}) {
      check.refused("type '" + sign + "'", x -> x.type(sign), Yards.FULL, Yards::full);
    }
  }

  private static void signAtNoPlace() {
    for (int place : new int[] {LEAST, -1, 80, 256, 65536, 1 << 24, MOST}) {
      check.refused("signAt " + place, x -> x.signAt(place), Yards.RANGE, Yards.ALL);
    }
    check.refused("signAt 4 of 4", x -> x.signAt(4), Yards.RANGE, Yards::crowded);
    check.refused("signAt 0 of none", x -> x.signAt(0), Yards.RANGE, RemainderYard::new);
  }

  private static void readIntoNoRow() {
    for (Check.Maker maker : Yards.ALL) {
      for (int row : Yards.NO_ROWS) {
        check.refused("read " + row, x -> x.read(row), Yards.ROW, Yards.typed(maker, "23"));
      }
    }
  }

  private static void readOfNoNumber() {
    for (Check.Maker maker : Yards.ALL) {
      for (String text : new String[] {"", "-", "+", "1 ", "1-", "--1", "9".repeat(60) + "-"}) {
        for (int row : new int[] {0, 1, 11}) {
          check.refused("read '" + text + "' into " + row, x -> x.read(row), Yards.NO_NUMBER,
              Yards.typed(maker, text));
        }
      }
    }
  }

  /** The calls that can be refused for their rows alone. */
  private static void callsOfRowsAlone() {
    for (int row : Yards.NO_ROWS) {
      List<Check.Call> calls = new ArrayList<>(List.of(x -> x.set(row, 5), x -> x.tell(row),
          x -> x.tellSigned(row), x -> x.copy(row, 1), x -> x.copy(1, row), x -> x.copy(row, row)));
      calls.addAll(List.of(x -> x.add(row, 1, 2), x -> x.add(1, row, 2), x -> x.add(1, 2, row)));
      calls.addAll(List.of(x -> x.subtract(row, 1, 2), x -> x.subtract(1, row, 2),
          x -> x.subtract(1, 2, row), x -> x.multiply(row, 1, 2), x -> x.multiply(1, row, 2),
          x -> x.multiply(1, 2, row)));
      calls.addAll(List.of(x -> x.compare(row, 1), x -> x.compare(1, row), x -> x.sign(row),
          x -> x.isTrue(row), x -> x.find(row)));
      for (int i = 0; i < calls.size(); i++) {
        check.refused("row " + row + ", call " + i, calls.get(i), Yards.ROW, Yards.ALL);
      }
    }
  }

  private static void wheelAndDigitOfNoRow() {
    for (int row : Yards.NO_ROWS) {
      check.refused("wheel " + row, x -> x.wheel(row, 0), Yards.ROW, Yards.WITH_DIALS);
      check.refused("digit " + row, x -> x.digit(row, 0), Yards.ROW, Yards.WITH_DIALS);
    }
  }

  private static void wheelAndDigitOfNoDial() {
    for (int index : NO_DIALS) {
      check.refused("wheel, dial " + index, x -> x.wheel(11, index), Yards.NONE, Yards.ALL);
      check.refused("digit, dial " + index, x -> x.digit(11, index), Yards.NONE, Yards.ALL);
    }
    check.refused("wheel, dial 5 of 5", x -> x.wheel(0, 5), Yards.NONE, Yards::crowded);
    check.refused("digit, dial 5 of 5", x -> x.digit(0, 5), Yards.NONE, Yards::crowded);
    check.refused("wheel, dial 0 of none", x -> x.wheel(0, 0), Yards.NONE, RemainderYard::new);
    check.refused("digit, dial 0 of none", x -> x.digit(0, 0), Yards.NONE, RemainderYard::new);
  }

  private static void turnOfNoRow() {
    for (int row : Yards.NO_ROWS) {
      check.refused("turn " + row, x -> x.turn(row, 0, 1), Yards.ROW, Yards.WITH_DIALS);
    }
  }

  private static void turnOfNoDial() {
    for (int index : NO_DIALS) {
      check.refused("turn, dial " + index, x -> x.turn(1, index, 0), Yards.NONE, Yards.ALL);
    }
    check.refused("turn, dial 5 of 5", x -> x.turn(1, 5, 0), Yards.NONE, Yards::crowded);
    check.refused("turn, dial 0 of none", x -> x.turn(1, 0, 0), Yards.NONE, RemainderYard::new);
  }

  private static void turnToNoPlace() {
    for (int place : new int[] {LEAST, -1, 13, 256, 65536, (1 << 24) + 1, MOST}) {
      check.refused("turn to " + place, x -> x.turn(1, 0, place), Yards.RANGE, Yards.WITH_DIALS);
    }
    check.refused("turn to 3 by 3", x -> x.turn(1, 0, 3), Yards.RANGE, Yards::crowded);
    check.refused("turn to 13 by 13", x -> x.turn(1, 4, 13), Yards.RANGE, Yards::crowded);
    check.refused("turn to 29 by 29", x -> x.turn(1, 9, 29), Yards.RANGE, Yards::full);
  }

  private static void undoIfNoCallIsKept() {
    check.refused("undo", x -> x.undo(), Yards.NONE, RemainderYard::new, () -> {
      RemainderYard yard = Yards.crowded();
      yard.addDial(17);
      return yard;
    }, () -> {
      RemainderYard yard = Yards.full();
      yard.dropDial(3);
      return yard;
    });
  }

  private static void powerOfNoRow() {
    for (int row : Yards.NO_ROWS) {
      for (int exponent : new int[] {LEAST, -1, 0, 1, MOST}) {
        check.refused("power " + row + ", exponent " + exponent, x -> x.power(row, 1, exponent), Yards.ROW,
            Yards.ALL);
        check.refused("power a " + row + ", exponent " + exponent, x -> x.power(1, row, exponent),
            Yards.ROW, Yards.ALL);
      }
    }
  }

  private static void powerWithoutInverse() {
    for (int exponent : new int[] {LEAST, -2, -1}) {
      check.refused("power, exponent " + exponent, x -> x.power(1, 0, exponent), Yards.ARITHMETIC,
          Yards.WITH_DIALS);
      check.refused("power of itself, exponent " + exponent, x -> x.power(0, 0, exponent),
          Yards.ARITHMETIC, Yards.WITH_DIALS);
    }
  }

  private static void inverseOfNoRow() {
    for (int row : Yards.NO_ROWS) {
      check.refused("inverse " + row, x -> x.inverse(row, 1), Yards.ROW, Yards.ALL);
      check.refused("inverse a " + row, x -> x.inverse(1, row), Yards.ROW, Yards.ALL);
    }
  }

  private static void inverseIfThereIsNone() {
    check.refused("inverse", x -> x.inverse(1, 0), Yards.ARITHMETIC, Yards.WITH_DIALS);
    check.refused("inverse of itself", x -> x.inverse(0, 0), Yards.ARITHMETIC, Yards.WITH_DIALS);
  }

  private static void divideOfNoRow() {
    for (int row : Yards.NO_ROWS) {
      check.refused("divide " + row, x -> x.divide(row, 1, 1), Yards.ROW, Yards.ALL);
      check.refused("divide a " + row, x -> x.divide(1, row, 1), Yards.ROW, Yards.ALL);
      check.refused("divide b " + row, x -> x.divide(1, 1, row), Yards.ROW, Yards.ALL);
    }
  }

  private static void divideWithoutInverse() {
    check.refused("divide", x -> x.divide(1, 2, 0), Yards.ARITHMETIC, Yards.WITH_DIALS);
    check.refused("divide into the second", x -> x.divide(0, 2, 0), Yards.ARITHMETIC, Yards.WITH_DIALS);
    check.refused("divide by itself", x -> x.divide(1, 0, 0), Yards.ARITHMETIC, Yards.WITH_DIALS);
  }

  private static void divideByOfNoRow() {
    for (int row : Yards.NO_ROWS) {
      check.refused("divideBy " + row, x -> x.divideBy(row, 1, 0), Yards.ROW, Yards.WITH_DIALS);
      check.refused("divideBy a " + row, x -> x.divideBy(1, row, 0), Yards.ROW, Yards.WITH_DIALS);
    }
  }

  private static void divideByNoDial() {
    for (int index : NO_DIALS) {
      check.refused("divideBy dial " + index, x -> x.divideBy(1, 2, index), Yards.NONE, Yards.ALL);
    }
    check.refused("divideBy dial 5 of 5", x -> x.divideBy(1, 2, 5), Yards.NONE, Yards::crowded);
    check.refused("divideBy dial 0 of none", x -> x.divideBy(1, 2, 0), Yards.NONE, RemainderYard::new);
  }

  private static void determinantOfNoRow() {
    for (int row : Yards.NO_ROWS) {
      check.refused("determinant " + row, x -> x.determinant(row, 0), Yards.ROW, Yards.ALL);
      check.refused("determinant " + row, x -> x.determinant(row, 3), Yards.ROW, Yards.ALL);
    }
    for (int first : new int[] {LEAST, -9, -8, -1, 4, 5, 11, 12, MOST - 8, MOST - 7, MOST}) {
      check.refused("determinant, first " + first, x -> x.determinant(1, first), Yards.ROW, Yards.ALL);
    }
  }

  private static void isEnoughOfNoRow() {
    for (int first : new int[] {LEAST, -9, -8, -1, 4, 5, 11, 12, MOST - 8, MOST - 7, MOST}) {
      check.refused("isEnough, first " + first, x -> x.isEnough(first), Yards.ROW, Yards.ALL);
    }
  }

  private static void polynomialOfSoMany() {
    for (int many : new int[] {LEAST, -1, 0, 7, 12, 257, 65537, (1 << 24) + 2, LEAST + 2, MOST}) {
      check.refused("polynomial of " + many, x -> x.polynomial(1, 2, many, 2), Yards.RANGE, Yards.ALL);
    }
  }

  private static void polynomialOfNoRow() {
    for (int many = 1; many <= 6; many++) {
      int asked = many;
      String what = "polynomial of " + many;
      for (int row : Yards.NO_ROWS) {
        check.refused(what + ", " + row, x -> x.polynomial(row, 1, asked, 2), Yards.ROW, Yards.ALL);
        check.refused(what + ", at " + row, x -> x.polynomial(1, 1, asked, row), Yards.ROW, Yards.ALL);
      }
      for (int first : new int[] {LEAST, -asked, -1, 13 - asked, 12, MOST - asked, MOST - asked + 1,
          MOST - asked + 2, MOST}) {
        check.refused(what + ", first " + first, x -> x.polynomial(1, first, asked, 2), Yards.ROW,
            Yards.ALL);
      }
    }
  }

  private static void isOverOfNoRow() {
    for (int row : Yards.NO_ROWS) {
      for (char act : new char[] {'+', '*'}) {
        check.refused("isOver a " + row + ", " + act, x -> x.isOver(row, 1, act), Yards.ROW, Yards.ALL);
        check.refused("isOver b " + row + ", " + act, x -> x.isOver(1, row, act), Yards.ROW, Yards.ALL);
      }
    }
  }

  private static void isOverByNoAct() {
    for (char act : new char[] {0, ' ', ')', ',', '-', '.', '/', 'x', 299, 298, 65535}) {
      check.refused("isOver, act " + (int) act, x -> x.isOver(1, 2, act), Yards.RANGE, Yards.ALL);
    }
  }

  private static void mendOfNoRow() {
    for (int row : Yards.NO_ROWS) {
      check.refused("mend " + row, x -> x.mend(row), Yards.ROW, Yards.ALL);
    }
  }

  private static void mendIfFindTellsNoDial() {
    refusedMend(-1, 1, RemainderYard::new);
    refusedMend(-1, 1, Yards::crowded);
    refusedMend(-1, 0, falseRow(29, 1));
    refusedMend(-2, 0, falseRow(100, 2));
    refusedMend(-3, 0, falseRow(100, 1));
  }

  private static void refusedMend(int found, int row, Check.Maker maker) {
    check.same("what find() tells", maker.make().find(row), found);
    check.refused("mend, find() tells " + found, x -> x.mend(row), Yards.NONE, maker);
  }

  private static Check.Maker falseRow(int number, int spare) {
    return () -> {
      RemainderYard yard = Check.yard(2, 3, 5, 7);
      yard.set(3, 1);
      yard.setSpare(spare);
      yard.set(0, number);
      Check.type(yard, "t");
      return yard;
    };
  }

  private static void setFractionOfNoRow() {
    for (int row : Yards.NO_ROWS) {
      check.refused("setFraction " + row, x -> x.setFraction(row, 3, 1), Yards.ROW, Yards.ALL);
    }
  }

  private static void setFractionOfZeroBelow() {
    for (long above : new long[] {Long.MIN_VALUE, -1, 0, 1, Long.MAX_VALUE}) {
      check.refused("setFraction " + above + "/0", x -> x.setFraction(1, above, 0), Yards.ARITHMETIC,
          Yards.ALL);
    }
  }

  private static void setFractionWithACommonDivisor() {
    for (long above : new long[] {Long.MIN_VALUE, -1, 0, 1, Long.MAX_VALUE}) {
      for (long below : new long[] {3, -3, 13, -13, 5005, -5005, 9223372036854775805L}) {
        check.refused("setFraction " + above + "/" + below, x -> x.setFraction(1, above, below),
            Yards.ARITHMETIC, Yards.WITH_DIALS);
      }
      check.refused("setFraction " + above + " by the least", x -> x.setFraction(1, above, Long.MIN_VALUE),
          Yards.ARITHMETIC, Yards::full);
    }
  }

  private static void fractionOfNoRow() {
    for (int row : Yards.NO_ROWS) {
      check.refused("fraction " + row, x -> x.fraction(row), Yards.ROW, Yards.ALL);
    }
  }

  private static void fractionIfThereIsNone() {
    check.refused("fraction", x -> x.fraction(0), Yards.NONE, RemainderYard::new, falseRow(37, 2),
        falseRow(100, 0), () -> Check.yard(2));
  }

  private static void toldOfNoRow() {
    for (int row : Yards.NO_ROWS) {
      check.refused("told " + row, x -> x.told(row, 0), Yards.ROW, Yards.ALL);
    }
  }

  private static void toldOfNoSet() {
    for (int set : new int[] {LEAST, LEAST + 1, -1, 1024, 1025, 65537, (1 << 24) + 1, MOST}) {
      check.refused("told, set " + set, x -> x.told(1, set), Yards.RANGE, Yards.ALL);
    }
    for (int set : new int[] {32, 33, 63, 64, 1023}) {
      check.refused("told, set " + set + " of 5", x -> x.told(1, set), Yards.RANGE, Yards::crowded);
    }
    check.refused("told, set 1 of none", x -> x.told(1, 1), Yards.RANGE, RemainderYard::new);
  }

  private static void openOutOfRange() {
    for (int k : new int[] {LEAST, LEAST + 1, -1, 0, 11, 257, 65537, (1 << 24) + 1, MOST}) {
      check.refused("open " + k, x -> x.open(k), Yards.RANGE, Yards.ALL);
    }
    check.refused("open 6 of 5", x -> x.open(6), Yards.RANGE, Yards::crowded);
    check.refused("open 1 of none", x -> x.open(1), Yards.RANGE, RemainderYard::new);
  }

  private static void meetOutOfRange() {
    for (int dial : new int[] {LEAST, LEAST + 7, -1, 0, 10000, 65543, (1 << 24) + 7, MOST}) {
      for (int number : new int[] {LEAST, 0, MOST}) {
        check.refused("meet " + number + " by " + dial, x -> x.meet(number, dial), Yards.RANGE,
            RemainderYard::new, Yards::crowded);
      }
    }
  }

  private static void meetIfThereAreEight() {
    for (int dial : new int[] {1, 2, 9999}) {
      check.refused("meet by " + dial, x -> x.meet(0, dial), Yards.FULL, Yards::full);
    }
  }

  private static void meetingIfThereIsNone() {
    check.refused("meeting", x -> x.meeting(), Yards.NONE, Yards::full, () -> {
      RemainderYard yard = Yards.crowded();
      yard.meet(4, 6);
      return yard;
    });
  }
}
