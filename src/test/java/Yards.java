import java.math.BigInteger;

/** Yards and numbers that the tests of single sentences share. */
final class Yards {
  static final int[] PRIMES = {2, 3, 5, 7, 11, 13, 17, 19, 23, 29};
  static final int[] GREAT = {9999, 9998, 9997, 9995, 9991, 9989, 9973, 9967, 9949, 9941};
  static final int[] NO_ROWS = {-1, 12, 13, 257, 65537, 1 << 24, Integer.MAX_VALUE, Integer.MIN_VALUE};

  static final Class<?> RANGE = IllegalArgumentException.class;
  static final Class<?> CLASH = UnsupportedOperationException.class;
  static final Class<?> FULL = IllegalStateException.class;
  static final Class<?> NONE = java.util.NoSuchElementException.class;
  static final Class<?> ROW = IndexOutOfBoundsException.class;
  static final Class<?> NO_NUMBER = NumberFormatException.class;
  static final Class<?> ARITHMETIC = ArithmeticException.class;

  static final Check.Maker[] ALL = {RemainderYard::new, Yards::crowded, Yards::full};
  static final Check.Maker[] WITH_DIALS = {Yards::crowded, Yards::full};

  private Yards() {
  }

  static BigInteger product(int... dials) {
    BigInteger product = BigInteger.ONE;
    for (int dial : dials) {
      product = product.multiply(BigInteger.valueOf(dial));
    }
    return product;
  }

  /** Lets a row become a number of any size; the text is empty then. */
  static boolean put(RemainderYard yard, int row, BigInteger number) {
    yard.erase();
    Check.type(yard, number.toString());
    return yard.read(row);
  }

  static BigInteger number(RemainderYard yard, int row) {
    yard.tell(row);
    return new BigInteger(Check.textOf(yard));
  }

  static Check.Maker typed(Check.Maker maker, String text) {
    return () -> {
      RemainderYard yard = maker.make();
      yard.erase();
      Check.type(yard, text);
      return yard;
    };
  }

  /** The wheels of one row, joined by spaces. */
  static String row(RemainderYard yard, int row) {
    StringBuilder places = new StringBuilder();
    int dials = yard.dials();
    for (int i = 0; i < dials; i++) {
      places.append(i == 0 ? "" : " ").append(yard.wheel(row, i));
    }
    return places.toString();
  }

  /** The remainders of a number by the dials of a yard, joined by spaces. */
  static String remainders(RemainderYard yard, BigInteger number) {
    StringBuilder places = new StringBuilder();
    int dials = yard.dials();
    for (int i = 0; i < dials; i++) {
      places.append(i == 0 ? "" : " ").append(number.mod(BigInteger.valueOf(yard.dialAt(i))));
    }
    return places.toString();
  }

  /**
   * Something of all that there is: dials 3, 5, 7, 11 and 13, the last two spare, with the product
   * 15015; row 0 has no inverse and is false; rows 1 to 11 are 8, 16, 32 and so on, but for a wheel
   * of row 4 that is turned; twelve calls are kept, and more were; two conditions that can be met; a
   * text.
   */
  static RemainderYard crowded() {
    RemainderYard yard = Check.yard(3, 5, 7, 11, 13);
    yard.setSpare(2);
    yard.set(4, 77);
    for (int row = 0; row < 12; row++) {
      yard.set(row, row == 0 ? 14994 : 4L << row);
    }
    yard.turn(4, 3, 9);
    yard.meet(5, 12);
    yard.meet(-1, 9);
    Check.type(yard, "t9 ~");
    return yard;
  }

  /**
   * As much as there can be: ten dials, all spare, eight conditions of which some are apart, a full
   * text, twelve calls kept. Row 0 is 0, so that it has no inverse.
   */
  static RemainderYard full() {
    RemainderYard yard = Check.yard(PRIMES);
    yard.setSpare(10);
    for (int row = 11; row >= 0; row--) {
      yard.set(row, 123457L * row);
    }
    for (int i = 0; i < 8; i++) {
      yard.meet(i % 3, 2 + i);
    }
    Check.type(yard, "x".repeat(80));
    return yard;
  }
}
