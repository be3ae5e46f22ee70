import java.util.NoSuchElementException;

/** Promises 37 and 38: fractions. */
public final class FractionsTest {
  private static final Class<?> ROW = IndexOutOfBoundsException.class;
  private static final Class<?> NONE = NoSuchElementException.class;
  private static final Class<?> WRONG = ArithmeticException.class;
  private static final int[] NO_ROWS = {-1, 12, 13, Integer.MAX_VALUE, Integer.MIN_VALUE};
  private static final Check check = new Check("FractionsTest");

  public static void main(String[] args) {
    setFraction();
    setFractionGreat();
    setFractionRefuses();
    fraction();
    fractionLimits();
    fractionEach();
    fractionGreat();
    fractionRefuses();
    check.end();
  }

  private static RemainderYard busy() {
    RemainderYard yard = Check.yard(3, 5, 7);
    yard.set(0, 23);
    Check.type(yard, "t");
    return yard;
  }

  private static void setFraction() {
    RemainderYard yard = busy();
    check.same("37: 1/2", yard.setFraction(0, 1, 2), false);
    check.numberIs("37: 1/2", yard, 0, "53");
    check.same("37: 4/2", yard.setFraction(1, 4, 2), true);
    check.numberIs("37: 4/2", yard, 1, "2");
    check.same("37: -4/2", yard.setFraction(1, -4, 2), true);
    check.numberIs("37: -4/2", yard, 1, "103");
    check.same("37: 4/-2", yard.setFraction(1, 4, -2), true);
    check.numberIs("37: 4/-2", yard, 1, "103");
    check.same("37: -1/-2", yard.setFraction(1, -1, -2), false);
    check.numberIs("37: -1/-2", yard, 1, "53");
    check.same("37: 0/8", yard.setFraction(1, 0, 8), true);
    check.numberIs("37: 0/8", yard, 1, "0");
    check.same("37: 3/1", yard.setFraction(11, 3, 1), true);
    check.numberIs("37: 3/1", yard, 11, "3");
    check.same("37: 3/4", yard.setFraction(11, 3, 4), false);
    check.rowIs("37: 3/4", yard, 11, 0, 2, 6);
    RemainderYard bare = new RemainderYard();
    check.same("37: without dials", bare.setFraction(0, 6, 3), true);
    check.same("37: without dials", bare.setFraction(0, 6, 4), false);
    check.same("19: both are kept", bare.undo() + bare.undo(), 0);
    check.same("19: but no more", Check.outcome(bare, x -> x.undo()), NONE);
    check.keeps("37: setFraction", FractionsTest::busy, x -> x.setFraction(0, 1, 2), 0);
  }

  private static void setFractionGreat() {
    RemainderYard yard = Check.yard(9999, 9997, 9995);
    check.same("37: the least by -1", yard.setFraction(0, Long.MIN_VALUE, -1), true);
    long least = Long.MIN_VALUE;
    check.rowIs("37: the least by -1", yard, 0, (9999 - Math.floorMod(least, 9999)) % 9999,
        (9997 - Math.floorMod(least, 9997)) % 9997, (9995 - Math.floorMod(least, 9995)) % 9995);
    check.same("37: 1 by the least", yard.setFraction(0, 1, least), false);
    yard.set(1, least);
    yard.multiply(2, 0, 1);
    check.rowIs("37: 1 by the least", yard, 2, 1, 1, 1);
    check.same("37: by itself", yard.setFraction(0, least, least), true);
    check.rowIs("37: by itself", yard, 0, 1, 1, 1);
    check.same("37: the greatest", yard.setFraction(0, Long.MAX_VALUE, 2), false);
    yard.set(1, 2);
    yard.multiply(2, 0, 1);
    yard.set(3, Long.MAX_VALUE);
    check.same("37: the greatest", yard.compare(2, 3), 0);
  }

  private static void setFractionRefuses() {
    for (long below : new long[] {0, 3, -3, 10, 14, 105, -35, 9223372036854775805L}) {
      check.refuses("37: by " + below, FractionsTest::busy, x -> x.setFraction(0, 1, below), WRONG);
      check.refuses("37: no row, by " + below, FractionsTest::busy,
          x -> x.setFraction(12, 1, below), ROW);
    }
    check.refuses("37: 3/3", FractionsTest::busy, x -> x.setFraction(0, 3, 3), WRONG);
    check.refuses("37: the least by a dial 2", () -> Check.yard(5, 2),
        x -> x.setFraction(0, 1, Long.MIN_VALUE), WRONG);
    check.refuses("37: by 0 without dials", RemainderYard::new, x -> x.setFraction(0, 1, 0), WRONG);
    for (int row : NO_ROWS) {
      check.refuses("37: setFraction " + row, FractionsTest::busy, x -> x.setFraction(row, 1, 2),
          ROW);
    }
  }

  private static void fraction() {
    RemainderYard yard = busy();
    long[][] due = {{1, 2}, {-1, 2}, {3, 4}, {-5, 4}, {7, 1}, {-7, 1}, {0, 1}, {1, 1}, {-1, 1}, {5, 2}};
    for (long[] parts : due) {
      yard.setFraction(3, parts[0], parts[1]);
      check.tells("38: " + parts[0] + "/" + parts[1], yard, yard.fraction(3),
          parts[0] + "/" + parts[1]);
    }
    yard.setFraction(3, 6, 8);
    check.tells("38: 6/8", yard, yard.fraction(3), "3/4");
    yard.setFraction(3, 2, -4);
    check.tells("38: 2/-4", yard, yard.fraction(3), "-1/2");
  }

  private static void fractionLimits() {
    // 2 * 7 * 7 is 98
    check.refuses("38: 7 by 98", () -> sevenBy(2, 49), x -> x.fraction(0), NONE);
    RemainderYard yard = sevenBy(9, 11);
    check.tells("38: 7 by 99", yard, yard.fraction(0), "7/1");
    yard = Check.yard(9, 11);
    yard.setFraction(0, 1, 7);
    check.tells("38: 1/7 by 99", yard, yard.fraction(0), "1/7");
    yard.setFraction(0, -7, 5);
    check.tells("38: -7/5 by 99", yard, yard.fraction(0), "-7/5");
    RemainderYard three = Check.yard(3);
    check.tells("38: 0 by 3", three, three.fraction(0), "0/1");
    three.set(0, 1);
    check.tells("38: 1 by 3", three, three.fraction(0), "1/1");
    three.set(0, 2);
    check.tells("38: 2 by 3", three, three.fraction(0), "-1/1");
    RemainderYard two = Check.yard(2);
    check.same("38: 0 by 2", Check.outcome(two, x -> x.fraction(0)), NONE);
    check.same("38: 0 without dials", Check.outcome(new RemainderYard(), x -> x.fraction(0)), NONE);
    // 2 * 104 is 6 by 202, but 104 is not 3; and 3 * 103 is 6 by 303, but 103 is not 2
    check.refuses("38: a divisor of the first dial", () -> {
      RemainderYard divisor = Check.yard(2, 101);
      divisor.set(0, 104);
      return divisor;
    }, x -> x.fraction(0), NONE);
    check.refuses("38: a divisor of the last dial", () -> {
      RemainderYard divisor = Check.yard(101, 3);
      divisor.set(0, 103);
      return divisor;
    }, x -> x.fraction(0), NONE);
  }

  private static RemainderYard sevenBy(int... dials) {
    RemainderYard yard = Check.yard(dials);
    yard.set(0, 7);
    return yard;
  }

  /** Each number by 11 * 13 against all fractions whose parts are small enough. */
  private static void fractionEach() {
    String[] due = new String[143];
    for (int below = 1; below <= 8; below++) {
      for (int above = -8; above <= 8; above++) {
        if (java.math.BigInteger.valueOf(above).gcd(java.math.BigInteger.valueOf(below)).intValue()
            == 1) {
          RemainderYard yard = Check.yard(11, 13);
          yard.setFraction(0, above, below);
          yard.tell(0);
          due[Integer.parseInt(Check.textOf(yard))] = above + "/" + below;
        }
      }
    }
    RemainderYard yard = Check.yard(11, 13);
    for (int number = 0; number < 143; number++) {
      yard = Check.yard(11, 13);
      yard.set(7, number);
      Object got = Check.outcome(yard, x -> x.fraction(7));
      check.same("38: " + number, got, due[number] == null ? NONE : due[number].length());
      check.textIs("38: " + number, yard, due[number] == null ? "" : due[number]);
    }
  }

  private static void fractionGreat() {
    RemainderYard yard = Check.yard(9999, 9998, 9997, 9995, 9991, 9989, 9973, 9967, 9949, 9941);
    long[][] due = {{Long.MAX_VALUE, 9223372036854775783L}, {Long.MIN_VALUE + 2, 1000000000061L},
        {1, 9223372036854775783L}, {-123456789, 1}, {1000000000, 9223372036854775783L}};
    for (long[] parts : due) {
      yard.setFraction(0, parts[0], parts[1]);
      check.tells("38: great ones", yard, yard.fraction(0), parts[0] + "/" + parts[1]);
    }
    // a square of 40 digits, twice it just below the product or not
    java.math.BigInteger product = java.math.BigInteger.ONE;
    for (int i = 0; i < 10; i++) {
      product = product.multiply(java.math.BigInteger.valueOf(yard.dialAt(i)));
    }
    java.math.BigInteger most = product.subtract(java.math.BigInteger.ONE).shiftRight(1).sqrt();
    yard.erase();
    Check.type(yard, most.toString());
    yard.read(1);
    check.tells("38: the greatest above the line", yard, yard.fraction(1), most + "/1");
    yard.erase();
    Check.type(yard, most.add(java.math.BigInteger.ONE).negate().toString());
    yard.read(1);
    Object got = Check.outcome(yard, x -> x.fraction(1));
    check.same("38: one more is too much", got, NONE);
  }

  private static void fractionRefuses() {
    check.refuses("38: none", () -> {
      RemainderYard yard = Check.yard(11, 13);
      yard.set(0, 11);
      Check.type(yard, "t");
      return yard;
    }, x -> x.fraction(0), NONE);
    for (int row : NO_ROWS) {
      check.refuses("38: fraction " + row, FractionsTest::busy, x -> x.fraction(row), ROW);
    }
  }
}
