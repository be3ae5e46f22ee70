import java.util.NoSuchElementException;

/** Promises 20 to 28: sums and products. */
public final class SumsTest {
  private static final Class<?> ROW = IndexOutOfBoundsException.class;
  private static final Class<?> NONE = NoSuchElementException.class;
  private static final Class<?> WRONG = IllegalArgumentException.class;
  private static final Class<?> NO_INVERSE = ArithmeticException.class;
  private static final int[] NO_ROWS = {-1, 12, 13, Integer.MAX_VALUE, Integer.MIN_VALUE};
  private static final Check check = new Check("SumsTest");

  public static void main(String[] args) {
    add();
    subtract();
    multiply();
    power();
    powerBelowZero();
    inverse();
    divide();
    divideBy();
    determinant();
    determinantGreat();
    polynomial();
    withoutDials();
    tenDials();
    check.end();
  }

  /** Dials 3, 5, 7; rows 0 to 11 are 23, 104, 8, 15, 2, 100, 64, 11, 1, 5, 17, 0. */
  private static RemainderYard busy() {
    RemainderYard yard = Check.yard(3, 5, 7);
    int[] numbers = {23, 104, 8, 15, 2, 100, 64, 11, 1, 5, 17};
    for (int row = 0; row < 11; row++) {
      yard.set(row, numbers[row]);
    }
    Check.type(yard, "t");
    return yard;
  }

  private static void add() {
    RemainderYard yard = busy();
    check.same("20: 23 + 104", yard.add(11, 0, 1), 0);
    check.numberIs("20: 23 + 104", yard, 11, "22");
    check.same("20: 23 + 15", yard.add(11, 0, 3), 0);
    check.numberIs("20: 23 + 15", yard, 11, "38");
    check.same("20: 5 + 100", yard.add(10, 9, 5), 3);
    check.numberIs("20: 5 + 100", yard, 10, "0");
    check.same("20: twice itself", yard.add(3, 3, 3), 2);
    check.numberIs("20: twice itself", yard, 3, "30");
    check.same("20: to the second one", yard.add(4, 0, 4), 1);
    check.numberIs("20: to the second one", yard, 4, "25");
    check.numberIs("20: the first stays", yard, 0, "23");
    for (int row : NO_ROWS) {
      check.refuses("20: add " + row, SumsTest::busy, x -> x.add(row, 0, 1), ROW);
      check.refuses("20: add .. " + row, SumsTest::busy, x -> x.add(0, row, 1), ROW);
      check.refuses("20: add .. .. " + row, SumsTest::busy, x -> x.add(0, 1, row), ROW);
    }
    check.keeps("20: add", SumsTest::busy, x -> x.add(5, 5, 1), 5);
    check.keeps("20: add nothing", SumsTest::busy, x -> x.add(5, 5, 11), 5);
  }

  private static void subtract() {
    RemainderYard yard = busy();
    check.same("21: 104 - 23", yard.subtract(11, 1, 0), 1);
    check.numberIs("21: 104 - 23", yard, 11, "81");
    check.same("21: 23 - 104", yard.subtract(10, 0, 1), 1);
    check.numberIs("21: 23 - 104", yard, 10, "24");
    check.same("21: less itself", yard.subtract(0, 0, 0), 3);
    check.numberIs("21: less itself", yard, 0, "0");
    check.same("21: to the second one", yard.subtract(4, 9, 4), 1);
    check.numberIs("21: to the second one", yard, 4, "3");
    for (int row : NO_ROWS) {
      check.refuses("21: subtract " + row, SumsTest::busy, x -> x.subtract(row, 0, 1), ROW);
      check.refuses("21: subtract .. " + row, SumsTest::busy, x -> x.subtract(0, row, 1), ROW);
      check.refuses("21: subtract .. .. " + row, SumsTest::busy, x -> x.subtract(0, 1, row), ROW);
    }
    check.keeps("21: subtract", SumsTest::busy, x -> x.subtract(2, 2, 2), 2);
  }

  private static void multiply() {
    RemainderYard yard = busy();
    check.same("22: 8 * 11", yard.multiply(11, 2, 7), 0);
    check.numberIs("22: 8 * 11", yard, 11, "88");
    check.same("22: 23 * 15", yard.multiply(10, 0, 3), 2);
    check.numberIs("22: 23 * 15", yard, 10, "30");
    check.same("22: its square", yard.multiply(1, 1, 1), 0);
    check.numberIs("22: its square", yard, 1, "1");
    RemainderYard great = Check.yard(9999, 9998);
    great.set(0, -1);
    check.same("22: great places", great.multiply(1, 0, 0), 0);
    check.rowIs("22: great places", great, 1, 1, 1);
    for (int row : NO_ROWS) {
      check.refuses("22: multiply " + row, SumsTest::busy, x -> x.multiply(row, 0, 1), ROW);
      check.refuses("22: multiply .. " + row, SumsTest::busy, x -> x.multiply(0, row, 1), ROW);
      check.refuses("22: multiply .. .. " + row, SumsTest::busy, x -> x.multiply(0, 1, row), ROW);
    }
    check.keeps("22: multiply", SumsTest::busy, x -> x.multiply(2, 2, 8), 2);
  }

  private static void power() {
    RemainderYard yard = busy();
    check.same("23: 2 to the 6th", yard.power(11, 4, 6), 0);
    check.numberIs("23: 2 to the 6th", yard, 11, "64");
    check.same("23: to the 0th", yard.power(10, 3, 0), 0);
    check.rowIs("23: to the 0th", yard, 10, 1, 1, 1);
    yard.set(9, 0);
    check.same("23: 0 to the 0th", yard.power(9, 9, 0), 0);
    check.rowIs("23: 0 to the 0th", yard, 9, 1, 1, 1);
    check.same("23: 15 to the 3rd", yard.power(3, 3, 3), 2);
    check.numberIs("23: 15 to the 3rd", yard, 3, "15");
    check.same("23: to the 1st", yard.power(0, 1, 1), 0);
    check.numberIs("23: to the 1st", yard, 0, "104");
    // 2 to the 12th is 1 by 3, 5 and 7, and 2147483647 is 7 by 12
    check.same("23: to the greatest", yard.power(2, 4, Integer.MAX_VALUE), 0);
    check.numberIs("23: to the greatest", yard, 2, "23");
    RemainderYard two = Check.yard(2, 9999);
    two.set(0, -1);
    two.power(1, 0, Integer.MAX_VALUE);
    check.rowIs("23: -1 to an odd one", two, 1, 1, 9998);
    two.power(1, 0, 0);
    check.rowIs("23: to the 0th", two, 1, 1, 1);
    check.keeps("23: power", SumsTest::busy, x -> x.power(3, 3, 1), 3);
  }

  private static void powerBelowZero() {
    RemainderYard yard = busy();
    // 2 * 53 is 106, 53 * 53 is 2809, which is 79 by 105
    check.same("23: 2 to the -1st", yard.power(11, 4, -1), 0);
    check.numberIs("23: 2 to the -1st", yard, 11, "53");
    check.same("23: 2 to the -2nd", yard.power(4, 4, -2), 0);
    check.numberIs("23: 2 to the -2nd", yard, 4, "79");
    yard.set(4, 2);
    // 2147483648 is 8 by 12; 2 to the 8th is 46 by 105, and 46 * 16 is 736, that is 1
    check.same("23: to the least", yard.power(5, 4, Integer.MIN_VALUE), 0);
    check.numberIs("23: to the least", yard, 5, "16");
    check.refuses("23: no inverse", SumsTest::busy, x -> x.power(0, 3, -1), NO_INVERSE);
    check.refuses("23: no inverse", SumsTest::busy, x -> x.power(0, 11, Integer.MIN_VALUE),
        NO_INVERSE);
    check.refuses("23: one wheel has none", SumsTest::busy, x -> x.power(0, 9, -2), NO_INVERSE);
    for (int row : NO_ROWS) {
      check.refuses("23: power " + row, SumsTest::busy, x -> x.power(row, 3, -1), ROW);
      check.refuses("23: power .. " + row, SumsTest::busy, x -> x.power(0, row, 2), ROW);
    }
    check.keeps("23: power below 0", SumsTest::busy, x -> x.power(3, 4, -5), 3);
  }

  private static void inverse() {
    RemainderYard yard = busy();
    check.same("24: of 23", yard.inverse(11, 0), 0);
    check.numberIs("24: of 23", yard, 11, "32");
    check.same("24: of 104", yard.inverse(1, 1), 0);
    check.numberIs("24: of 104", yard, 1, "104");
    check.same("24: of 1", yard.inverse(2, 8), 0);
    check.numberIs("24: of 1", yard, 2, "1");
    RemainderYard great = Check.yard(9999, 9998, 9997);
    great.set(0, 5003);
    check.same("24: by great dials", great.inverse(1, 0), 0);
    great.multiply(2, 0, 1);
    check.rowIs("24: by great dials", great, 2, 1, 1, 1);
    check.refuses("24: of 0", SumsTest::busy, x -> x.inverse(0, 11), NO_INVERSE);
    check.refuses("24: of 15", SumsTest::busy, x -> x.inverse(0, 3), NO_INVERSE);
    check.refuses("24: of 2 by 4 and 9", () -> {
      RemainderYard four = Check.yard(4, 9);
      four.set(1, 2);
      return four;
    }, x -> x.inverse(0, 1), NO_INVERSE);
    for (int row : NO_ROWS) {
      check.refuses("24: inverse " + row, SumsTest::busy, x -> x.inverse(row, 3), ROW);
      check.refuses("24: inverse .. " + row, SumsTest::busy, x -> x.inverse(0, row), ROW);
    }
    check.keeps("24: inverse", SumsTest::busy, x -> x.inverse(3, 8), 3);
  }

  private static void divide() {
    RemainderYard yard = busy();
    check.same("25: 64 by 2", yard.divide(11, 6, 4), 0);
    check.numberIs("25: 64 by 2", yard, 11, "32");
    check.same("25: 15 by 2", yard.divide(10, 3, 4), 2);
    check.numberIs("25: 15 by 2", yard, 10, "60");
    check.same("25: by itself", yard.divide(0, 0, 0), 0);
    check.numberIs("25: by itself", yard, 0, "1");
    check.same("25: to the second one", yard.divide(4, 8, 4), 0);
    check.numberIs("25: to the second one", yard, 4, "53");
    check.refuses("25: by 15", SumsTest::busy, x -> x.divide(0, 1, 3), NO_INVERSE);
    check.refuses("25: 15 by 15", SumsTest::busy, x -> x.divide(0, 3, 3), NO_INVERSE);
    check.refuses("25: by 0", SumsTest::busy, x -> x.divide(0, 1, 11), NO_INVERSE);
    for (int row : NO_ROWS) {
      check.refuses("25: divide " + row, SumsTest::busy, x -> x.divide(row, 1, 3), ROW);
      check.refuses("25: divide .. " + row, SumsTest::busy, x -> x.divide(0, row, 3), ROW);
      check.refuses("25: divide .. .. " + row, SumsTest::busy, x -> x.divide(0, 1, row), ROW);
    }
    check.keeps("25: divide", SumsTest::busy, x -> x.divide(3, 3, 8), 3);
  }

  private static void divideBy() {
    RemainderYard yard = busy();
    check.same("26: 23 by 5", yard.divideBy(11, 0, 1), 3);
    check.numberIs("26: 23 by 5", yard, 11, "4");
    check.same("26: 104 by 3", yard.divideBy(10, 1, 0), 2);
    check.numberIs("26: 104 by 3", yard, 10, "34");
    check.same("26: 100 by 7", yard.divideBy(5, 5, 2), 2);
    check.numberIs("26: 100 by 7", yard, 5, "14");
    check.same("26: 15 by 5", yard.divideBy(3, 3, 1), 0);
    check.numberIs("26: 15 by 5", yard, 3, "3");
    check.same("26: 2 by 3", yard.divideBy(4, 4, 0), 2);
    check.numberIs("26: 2 by 3", yard, 4, "0");
    RemainderYard great = Check.yard(9999, 9998, 9997, 9995, 9991, 9989, 9973, 9967, 9949, 9941);
    Check.type(great, "1234567890123456789012345678901234567890".substring(0, 39));
    great.read(0);
    java.math.BigInteger[] due = new java.math.BigInteger("123456789012345678901234567890123456789")
        .divideAndRemainder(java.math.BigInteger.valueOf(9991));
    check.same("26: a great one", great.divideBy(1, 0, 4), due[1].intValue());
    check.numberIs("26: a great one", great, 1, due[0].toString());
    for (int row : NO_ROWS) {
      check.refuses("26: divideBy " + row, SumsTest::busy, x -> x.divideBy(row, 0, 3), ROW);
      check.refuses("26: divideBy .. " + row, SumsTest::busy, x -> x.divideBy(0, row, -1), ROW);
    }
    for (int index : new int[] {-1, 3, 10, Integer.MAX_VALUE, Integer.MIN_VALUE}) {
      check.refuses("26: dial " + index, SumsTest::busy, x -> x.divideBy(0, 1, index), NONE);
    }
    check.keeps("26: divideBy", SumsTest::busy, x -> x.divideBy(3, 0, 0), 3);
  }

  private static RemainderYard grid(int first, int... numbers) {
    RemainderYard yard = Check.yard(7, 11, 13);
    for (int i = 0; i < 9; i++) {
      yard.set(first + i, numbers[i]);
    }
    return yard;
  }

  private static void determinant() {
    for (int first = 0; first <= 3; first++) {
      // 2(5*9-6*8) - 3(4*9-6*7) + 1(4*8-5*7) is -6 + 18 - 3
      RemainderYard yard = grid(first, 2, 3, 1, 4, 5, 6, 7, 8, 9);
      check.same("27: 9", yard.determinant(first == 0 ? 11 : 0, first), 0);
      check.numberIs("27: 9", yard, first == 0 ? 11 : 0, "9");
    }
    RemainderYard within = grid(3, 0, 0, 7, 0, 11, 0, 13, 0, 0);
    check.same("27: -1001 into one of the nine", within.determinant(5, 3), 3);
    check.numberIs("27: -1001 into one of the nine", within, 5, "0");
    RemainderYard minus = grid(0, 0, 1, 0, 1, 0, 0, 0, 0, 1);
    check.same("27: -1", minus.determinant(4, 0), 0);
    check.rowIs("27: -1", minus, 4, 6, 10, 12);
    RemainderYard turned = grid(0, 0, 2, 0, 0, 0, 3, 5, 0, 0);
    turned.determinant(11, 0);
    check.numberIs("27: 30", turned, 11, "30");
    for (int first : new int[] {-1, 4, 5, 11, 12, Integer.MAX_VALUE, Integer.MIN_VALUE,
        Integer.MAX_VALUE - 8, Integer.MAX_VALUE - 7}) {
      check.refuses("27: from " + first, SumsTest::busy, x -> x.determinant(0, first), ROW);
    }
    for (int row : NO_ROWS) {
      check.refuses("27: determinant " + row, SumsTest::busy, x -> x.determinant(row, 0), ROW);
    }
    check.keeps("27: determinant", SumsTest::busy, x -> x.determinant(3, 0), 3);
  }

  private static void determinantGreat() {
    RemainderYard yard = Check.yard(9999, 9998, 9997);
    for (int row = 0; row < 9; row++) {
      yard.set(row, -1 - row % 4);
    }
    yard.determinant(11, 0);
    // the rows are -1 -2 -3, -4 -1 -2, -3 -4 -1
    yard.tellSigned(11);
    check.textIs("27: great places", yard, "-36");
  }

  private static void polynomial() {
    RemainderYard yard = busy();
    check.same("28: one", yard.polynomial(11, 0, 1, 1), 0);
    check.numberIs("28: one", yard, 11, "23");
    // 64 + 11 * 2 + 1 * 4 + 5 * 8 is 130
    check.same("28: four", yard.polynomial(11, 6, 4, 4), 1);
    check.numberIs("28: four", yard, 11, "25");
    // 64 + 22 + 4 + 40 + 17 * 16 + 25 * 32 is 1202
    check.same("28: six", yard.polynomial(0, 6, 6, 4), 0);
    check.numberIs("28: six", yard, 0, "47");
    // 2 + 100 * 2 + 64 * 4 is 458
    check.same("28: to the variable, the first coefficient", yard.polynomial(4, 4, 3, 4), 0);
    check.numberIs("28: to the variable, the first coefficient", yard, 4, "38");
    RemainderYard great = Check.yard(9999, 9998);
    for (int row = 0; row < 6; row++) {
      great.set(row, -1);
    }
    great.polynomial(6, 0, 6, 5);
    check.rowIs("28: great places", great, 6, 0, 0);
    for (int many : new int[] {0, 7, -1, Integer.MAX_VALUE, Integer.MIN_VALUE}) {
      check.refuses("28: many " + many, SumsTest::busy, x -> x.polynomial(0, 0, many, 0), WRONG);
      check.refuses("28: no row and many " + many, SumsTest::busy,
          x -> x.polynomial(12, -1, many, 12), WRONG);
    }
    for (int row : NO_ROWS) {
      check.refuses("28: to " + row, SumsTest::busy, x -> x.polynomial(row, 0, 2, 0), ROW);
      check.refuses("28: from " + row, SumsTest::busy, x -> x.polynomial(0, row, 2, 0), ROW);
      check.refuses("28: at " + row, SumsTest::busy, x -> x.polynomial(0, 0, 2, row), ROW);
    }
    for (int many = 2; many <= 6; many++) {
      int from = 13 - many;
      int asked = many;
      check.refuses("28: beyond the last", SumsTest::busy, x -> x.polynomial(0, from, asked, 0), ROW);
      check.keeps("28: up to the last", SumsTest::busy, x -> x.polynomial(1, from - 1, asked, 0), 1);
    }
    check.keeps("28: one, the last", SumsTest::busy, x -> x.polynomial(11, 11, 1, 0), 11);
  }

  private static void withoutDials() {
    RemainderYard yard = new RemainderYard();
    check.same("20: without dials", yard.add(0, 1, 2), 0);
    check.same("21: without dials", yard.subtract(0, 1, 2), 0);
    check.same("22: without dials", yard.multiply(0, 1, 2), 0);
    check.same("23: without dials", yard.power(0, 1, -3), 0);
    check.same("24: without dials", yard.inverse(0, 1), 0);
    check.same("25: without dials", yard.divide(0, 1, 2), 0);
    check.same("26: without dials", Check.outcome(yard, x -> x.divideBy(0, 1, 0)), NONE);
    check.same("27: without dials", yard.determinant(0, 1), 0);
    check.same("28: without dials", yard.polynomial(0, 1, 6, 2), 0);
    for (int i = 0; i < 8; i++) {
      check.same("19: each is kept", yard.undo(), 0);
    }
    check.same("19: but no more", Check.outcome(yard, x -> x.undo()), NONE);
  }

  private static void tenDials() {
    RemainderYard yard = Check.yard(9999, 9998, 9997, 9995, 9991, 9989, 9973, 9967, 9949, 9941);
    yard.set(0, 1000003);
    yard.set(1, 2000003);
    check.same("20: ten dials", yard.add(2, 0, 1), 0);
    check.numberIs("20: ten dials", yard, 2, "3000006");
    check.same("21: ten dials", yard.subtract(2, 1, 0), 0);
    check.numberIs("21: ten dials", yard, 2, "1000000");
    check.same("22: ten dials", yard.multiply(2, 0, 1), 0);
    check.numberIs("22: ten dials", yard, 2, "2000009000009");
    check.same("23: ten dials", yard.power(2, 0, 3), 0);
    check.numberIs("23: ten dials", yard, 2, "1000009000027000027");
    check.same("25: ten dials", yard.divide(3, 2, 0), 0);
    check.numberIs("25: ten dials", yard, 3, "1000006000009");
    check.same("24: ten dials", yard.inverse(4, 2), 0);
    check.same("22: ten dials", yard.multiply(4, 4, 2), 0);
    check.numberIs("24: ten dials", yard, 4, "1");
    check.same("26: ten dials", yard.divideBy(5, 1, 9), 2000003 % 9941);
    check.numberIs("26: ten dials", yard, 5, Integer.toString(2000003 / 9941));
    yard.set(4, 1);
    yard.set(5, 0);
    yard.set(8, 7);
    // the lines are 1000003 2000003 row 2, 0 1 0, 0 row 7 7, and row 7 is 0
    yard.set(3, 0);
    yard.set(6, 0);
    check.same("27: ten dials", yard.determinant(11, 0), 0);
    check.numberIs("27: ten dials", yard, 11, "7000021");
    check.same("28: ten dials", yard.polynomial(11, 0, 2, 1), 0);
    check.numberIs("28: ten dials", yard, 11, "4000013000012");
  }
}
