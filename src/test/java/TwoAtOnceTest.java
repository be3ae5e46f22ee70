/**
 * 'If several exceptions apply, the one that is documented first is thrown': for each call that has
 * several rows of 'Throws', each two of them that can apply at once; behind each of them nothing has
 * changed. A method of its own for each two.
 */
public final class TwoAtOnceTest {
  private static final int LEAST = Integer.MIN_VALUE;
  private static final int MOST = Integer.MAX_VALUE;
  private static final int[] NO_DIALS = {LEAST, -1, 10, 65536, MOST};
  private static final Check check = new Check("TwoAtOnceTest");

  public static void main(String[] args) {
    check.all(TwoAtOnceTest.class);
  }

  private static RemainderYard tenGreat() {
    RemainderYard yard = Check.yard(Yards.GREAT);
    yard.set(3, -1);
    return yard;
  }

  private static void addDialRangeAndClash() {
    for (int dial : new int[] {0, -3, -15, 10005, 15015, 30030, -30030}) {
      check.refused("addDial " + dial, x -> x.addDial(dial), Yards.RANGE, Yards::crowded);
    }
  }

  private static void addDialRangeAndFull() {
    for (int dial : new int[] {1, -1, 10007, -31, 31 * 331}) {
      check.refused("addDial " + dial, x -> x.addDial(dial), Yards.RANGE, Yards::full,
          TwoAtOnceTest::tenGreat);
    }
  }

  private static void addDialClashAndFull() {
    for (int dial : new int[] {2, 29, 9999, 9998, 31 * 7}) {
      check.refused("addDial " + dial, x -> x.addDial(dial), Yards.CLASH, Yards::full);
    }
    for (int dial : new int[] {2, 3, 5, 13, 9941, 9999}) {
      check.refused("addDial " + dial, x -> x.addDial(dial), Yards.CLASH, TwoAtOnceTest::tenGreat);
    }
  }

  private static void addDialAllThree() {
    for (int dial : new int[] {0, 10000, -2, 20000, LEAST}) {
      check.refused("addDial " + dial, x -> x.addDial(dial), Yards.RANGE, Yards::full,
          TwoAtOnceTest::tenGreat);
    }
  }

  private static void typeCodeAndFull() {
    for (int code : new int[] {0, 10, 31, 127, 128, 255, 288, 65535}) {
      check.refused("type, code " + code, x -> x.type((char) code), Yards.RANGE, Yards::full);
    }
  }

  private static void readRowAndNumber() {
    for (Check.Maker maker : Yards.ALL) {
      for (String text : new String[] {"", "-", "x", "1 ", " 1", "9".repeat(60) + "-"}) {
        for (int row : Yards.NO_ROWS) {
          check.refused("read " + row + ", '" + text + "'", x -> x.read(row), Yards.ROW,
              Yards.typed(maker, text));
        }
      }
    }
  }

  private static void wheelRowAndDial() {
    for (int row : Yards.NO_ROWS) {
      for (int index : NO_DIALS) {
        check.refused("wheel " + row + ", " + index, x -> x.wheel(row, index), Yards.ROW, Yards.ALL);
      }
      check.refused("wheel " + row + ", 0", x -> x.wheel(row, 0), Yards.ROW, RemainderYard::new);
    }
  }

  private static void digitRowAndDial() {
    for (int row : Yards.NO_ROWS) {
      for (int index : NO_DIALS) {
        check.refused("digit " + row + ", " + index, x -> x.digit(row, index), Yards.ROW, Yards.ALL);
      }
      check.refused("digit " + row + ", 0", x -> x.digit(row, 0), Yards.ROW, RemainderYard::new);
    }
  }

  private static void turnRowAndDial() {
    for (int row : Yards.NO_ROWS) {
      for (int index : NO_DIALS) {
        check.refused("turn " + row + ", " + index, x -> x.turn(row, index, 0), Yards.ROW, Yards.ALL);
      }
    }
  }

  private static void turnRowAndPlace() {
    for (int row : Yards.NO_ROWS) {
      for (int place : new int[] {LEAST, -1, 29, 9999, MOST}) {
        check.refused("turn " + row + ", place " + place, x -> x.turn(row, 0, place), Yards.ROW,
            Yards.WITH_DIALS);
      }
    }
  }

  private static void turnDialAndPlace() {
    for (int index : NO_DIALS) {
      for (int place : new int[] {LEAST, -1, 9999, MOST}) {
        check.refused("turn, " + index + ", place " + place, x -> x.turn(1, index, place), Yards.NONE,
            Yards.ALL);
      }
    }
  }

  private static void turnAllThree() {
    for (int row : Yards.NO_ROWS) {
      for (int index : NO_DIALS) {
        check.refused("turn " + row + ", " + index + ", place -1", x -> x.turn(row, index, -1), Yards.ROW,
            Yards.ALL);
        check.refused("turn " + row + ", " + index + ", place 9999", x -> x.turn(row, index, 9999),
            Yards.ROW, Yards.ALL);
      }
    }
  }

  private static void powerRowAndInverse() {
    for (int row : Yards.NO_ROWS) {
      for (int exponent : new int[] {-1, -2, LEAST}) {
        check.refused("power " + row + ", exponent " + exponent, x -> x.power(row, 0, exponent), Yards.ROW,
            Yards.WITH_DIALS);
      }
    }
  }

  private static void inverseRowAndNone() {
    for (int row : Yards.NO_ROWS) {
      check.refused("inverse " + row, x -> x.inverse(row, 0), Yards.ROW, Yards.WITH_DIALS);
    }
  }

  private static void divideRowAndInverse() {
    for (int row : Yards.NO_ROWS) {
      check.refused("divide " + row, x -> x.divide(row, 1, 0), Yards.ROW, Yards.WITH_DIALS);
      check.refused("divide a " + row, x -> x.divide(1, row, 0), Yards.ROW, Yards.WITH_DIALS);
      check.refused("divide both " + row, x -> x.divide(row, row, 0), Yards.ROW, Yards.WITH_DIALS);
    }
  }

  private static void divideByRowAndDial() {
    for (int row : Yards.NO_ROWS) {
      for (int index : NO_DIALS) {
        check.refused("divideBy " + row + ", " + index, x -> x.divideBy(row, 1, index), Yards.ROW,
            Yards.ALL);
        check.refused("divideBy a " + row + ", " + index, x -> x.divideBy(1, row, index), Yards.ROW,
            Yards.ALL);
      }
    }
  }

  private static void polynomialManyAndRow() {
    for (int many : new int[] {LEAST, -1, 0, 7, MOST}) {
      for (int row : Yards.NO_ROWS) {
        String what = "polynomial of " + many + ", row " + row;
        check.refused(what + ", to", x -> x.polynomial(row, 1, many, 2), Yards.RANGE, Yards.ALL);
        check.refused(what + ", first", x -> x.polynomial(1, row, many, 2), Yards.RANGE, Yards.ALL);
        check.refused(what + ", at", x -> x.polynomial(1, 1, many, row), Yards.RANGE, Yards.ALL);
        check.refused(what + ", all", x -> x.polynomial(row, row, many, row), Yards.RANGE, Yards.ALL);
      }
    }
    for (int first = 6; first < 12; first++) {
      int from = first;
      check.refused("polynomial of 7 from " + first, x -> x.polynomial(1, from, 7, 2), Yards.RANGE,
          Yards.ALL);
      check.refused("polynomial of the greatest from " + first, x -> x.polynomial(1, from, MOST, 2),
          Yards.RANGE, Yards.ALL);
    }
  }

  private static void isOverRowAndAct() {
    for (int row : Yards.NO_ROWS) {
      for (char act : new char[] {'-', 0, 'x', 65535, 299}) {
        check.refused("isOver a " + row + ", " + (int) act, x -> x.isOver(row, 1, act), Yards.ROW,
            Yards.ALL);
        check.refused("isOver b " + row + ", " + (int) act, x -> x.isOver(1, row, act), Yards.ROW,
            Yards.ALL);
      }
    }
  }

  private static void setFractionRowAndZero() {
    for (int row : Yards.NO_ROWS) {
      check.refused("setFraction " + row + ", 1/0", x -> x.setFraction(row, 1, 0), Yards.ROW, Yards.ALL);
      check.refused("setFraction " + row + ", 0/0", x -> x.setFraction(row, 0, 0), Yards.ROW, Yards.ALL);
    }
  }

  private static void setFractionRowAndDivisor() {
    for (int row : Yards.NO_ROWS) {
      for (long below : new long[] {3, -5, 13, -1001, 30030}) {
        check.refused("setFraction " + row + ", 1/" + below, x -> x.setFraction(row, 1, below), Yards.ROW,
            Yards.WITH_DIALS);
      }
    }
  }

  private static void toldRowAndSet() {
    for (int row : Yards.NO_ROWS) {
      for (int set : new int[] {LEAST, -1, 1024, MOST}) {
        check.refused("told " + row + ", set " + set, x -> x.told(row, set), Yards.ROW, Yards.ALL);
      }
    }
  }

  private static void meetDialAndFull() {
    for (int dial : new int[] {LEAST, -1, 0, 10000, MOST}) {
      for (int number : new int[] {LEAST, 0, MOST}) {
        check.refused("meet " + number + " by " + dial, x -> x.meet(number, dial), Yards.RANGE, Yards::full);
      }
    }
  }
}
