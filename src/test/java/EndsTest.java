import java.math.BigInteger;

/** Numbers at the ends of int and long, in each call that takes them. */
public final class EndsTest {
  private static final int LEAST = Integer.MIN_VALUE;
  private static final int MOST = Integer.MAX_VALUE;
  private static final long[] LONGS = {Long.MIN_VALUE, Long.MIN_VALUE + 1, LEAST - 1L, LEAST, -9999, -2,
      -1, 0, 1, 2, 9999, MOST, MOST + 1L, 999999999999999999L, 1000000000000000000L,
      Long.MAX_VALUE - 1, Long.MAX_VALUE};
  private static final int[][] YARDS = {{}, {2}, {3}, {9999}, {8192, 6561}, {9999, 9998, 9997},
      {9973, 9967, 9949, 9941, 9931}, Yards.PRIMES, Yards.GREAT};
  private static final Check check = new Check("EndsTest");

  public static void main(String[] args) {
    check.all(EndsTest.class);
  }

  private static BigInteger big(long value) {
    return BigInteger.valueOf(value);
  }

  private static void set() {
    for (int[] dials : YARDS) {
      BigInteger product = Yards.product(dials);
      for (long number : LONGS) {
        String what = "set " + number + " by " + product;
        RemainderYard yard = Check.yard(dials);
        boolean due = number >= 0 && big(number).compareTo(product) < 0;
        check.same(what, yard.set(0, number), due);
        check.same(what + ", the wheels", Yards.row(yard, 0), Yards.remainders(yard, big(number)));
        check.same(what + ", the number", Yards.number(yard, 0), big(number).mod(product));
      }
    }
  }

  private static boolean coprime(long below, int[] dials) {
    return big(below).gcd(Yards.product(dials)).equals(BigInteger.ONE);
  }

  private static void setFraction() {
    for (int[] dials : YARDS) {
      for (long above : LONGS) {
        for (long below : LONGS) {
          String what = "setFraction " + above + "/" + below + " by " + Yards.product(dials);
          RemainderYard yard = Check.yard(dials);
          Object got = Check.outcome(yard, x -> x.setFraction(0, above, below));
          if (below == 0 || !coprime(below, dials)) {
            check.same(what, got, Yards.ARITHMETIC);
            continue;
          }
          check.same(what, got, big(above).mod(big(below).abs()).signum() == 0);
          yard.set(1, below);
          yard.multiply(2, 0, 1);
          check.same(what + ", the wheels", Yards.row(yard, 2), Yards.remainders(yard, big(above)));
        }
      }
    }
  }

  private static void setFractionMultiples() {
    long least = Long.MIN_VALUE;
    long most = Long.MAX_VALUE;
    long[][] multiples = {{least, -1}, {least, 1}, {least, least}, {0, least}, {0, most}, {most, -1},
        {most, most}, {most, -most}, {-most, most}, {least, 1L << 62}, {least, -(1L << 62)}, {least, 2}};
    long[][] others = {{least, most}, {most, least}, {1, least}, {-1, most}, {least, 3}, {most, 2},
        {1L << 62, least}, {least + 1, least}, {least + 1, 2}};
    for (long[] parts : multiples) {
      check.same("'is a multiple': " + parts[0] + " of " + parts[1],
          new RemainderYard().setFraction(0, parts[0], parts[1]), true);
    }
    for (long[] parts : others) {
      check.same("'is a multiple': " + parts[0] + " is none of " + parts[1],
          new RemainderYard().setFraction(0, parts[0], parts[1]), false);
    }
  }

  private static void setFractionOfNoInverse() {
    // the least long is a power of 2, and the greatest is 7 * 7 * 73 * 127 * 337 * 92737 * 649657
    for (int dial : new int[] {7, 73, 127, 337, 49, 9271}) {
      RemainderYard yard = Check.yard(5, dial);
      check.same("setFraction by the greatest, a dial " + dial,
          Check.outcome(yard, x -> x.setFraction(0, 1, Long.MAX_VALUE)), Yards.ARITHMETIC);
      check.same("setFraction by it below 0, a dial " + dial,
          Check.outcome(yard, x -> x.setFraction(0, 1, -Long.MAX_VALUE)), Yards.ARITHMETIC);
      check.same("setFraction by the least, a dial " + dial,
          Check.outcome(yard, x -> x.setFraction(0, 1, Long.MIN_VALUE)), false);
    }
    for (int dial : new int[] {2, 8, 8192, 9998}) {
      RemainderYard yard = Check.yard(5, dial);
      check.same("setFraction by the least, a dial " + dial,
          Check.outcome(yard, x -> x.setFraction(0, 1, Long.MIN_VALUE)), Yards.ARITHMETIC);
    }
  }

  private static void powerOfZero() {
    for (int[] dials : YARDS) {
      RemainderYard yard = Check.yard(dials);
      check.same("power: 0 'with the exponent 0'", yard.power(1, 0, 0), 0);
      check.same("power: 0 'with the exponent 0', 'the remainder of 1'", Yards.row(yard, 1),
          Yards.remainders(yard, BigInteger.ONE));
      check.same("power: 0 with the exponent 1", yard.power(1, 0, 1), dials.length);
      check.same("power: 0 with the greatest exponent", yard.power(1, 0, MOST), dials.length);
      check.same("power: 0 with the exponent -1", Check.outcome(yard, x -> x.power(1, 0, -1)),
          dials.length == 0 ? 0 : (Object) Yards.ARITHMETIC);
    }
    RemainderYard yard = Check.yard(3, 5, 7);
    yard.set(0, 15);
    yard.power(0, 0, 0);
    check.rowIs("power: 'with the exponent 0 each wheel', no inverse is needed", yard, 0, 1, 1, 1);
  }

  /** By each dial, the power as BigInteger tells it. */
  private static String powers(RemainderYard yard, long base, long exponent) {
    StringBuilder places = new StringBuilder();
    for (int i = 0; i < yard.dials(); i++) {
      BigInteger dial = big(yard.dialAt(i));
      places.append(i == 0 ? "" : " ").append(big(base).modPow(big(exponent), dial));
    }
    return places.toString();
  }

  private static void powerOfExponents() {
    int[] exponents = {0, 1, 2, 3, 9998, 65535, 65536, 1 << 30, (1 << 30) - 1, MOST - 1, MOST};
    for (int[] dials : YARDS) {
      for (int exponent : exponents) {
        for (long base : new long[] {0, 1, -1, 2, 10, 123456789}) {
          RemainderYard yard = Check.yard(dials);
          yard.set(3, base);
          yard.power(2, 3, exponent);
          check.same("power: " + base + ", exponent " + exponent, Yards.row(yard, 2),
              powers(yard, base, exponent));
        }
      }
    }
  }

  private static void powerBelowZero() {
    int[] exponents = {-1, -2, -3, -9998, -65536, -(1 << 30), -MOST, LEAST};
    for (int[] dials : YARDS) {
      for (int exponent : exponents) {
        for (long base : new long[] {1, -1, 2, -3, 10, 31, 101, 1000003}) {
          RemainderYard yard = Check.yard(dials);
          yard.set(3, base);
          Object got = Check.outcome(yard, x -> x.power(2, 3, exponent));
          String what = "power: " + base + ", exponent " + exponent + " by " + Yards.product(dials);
          check.same(what, got, coprime(base, dials) ? 0 : (Object) Yards.ARITHMETIC);
          if (coprime(base, dials)) {
            check.same(what + ", the wheels", Yards.row(yard, 2), powers(yard, base, exponent));
          }
        }
      }
    }
  }

  private static void powerLeast() {
    // 2 to the 2147483648th is 2 to the 8th by 13 (12 divides the rest), and its inverse 1 / 9 is 3
    RemainderYard yard = Check.yard(13);
    yard.set(0, 2);
    check.same("power: 'the exponent without its sign', the least int", yard.power(1, 0, LEAST), 0);
    check.same("power: 'the exponent without its sign', the least int", yard.wheel(1, 0), 3);
    check.same("power: its neighbour", yard.power(1, 0, -MOST), 0);
    check.same("power: its neighbour", yard.wheel(1, 0), 6);
    check.same("power: it is kept", yard.undo(), 1);
    check.same("power: and what was ahead of it", yard.wheel(1, 0), 3);
  }

  private static void meet() {
    int[] numbers = {LEAST, LEAST + 1, -10000, -9999, -2, -1, 0, 1, 9998, 9999, MOST - 1, MOST};
    for (int number : numbers) {
      for (int dial : new int[] {1, 2, 3, 10, 8192, 9998, 9999}) {
        RemainderYard yard = new RemainderYard();
        int due = Math.floorMod(number, dial);
        check.same("meet " + number + " by " + dial, yard.meet(number, dial), 1);
        check.same("meet " + number + " by " + dial + ", its remainder", yard.checksum(),
            (217L * 31 + dial) * 31 + due);
        check.tells("meet " + number + " by " + dial + ", the least", yard, yard.meeting(),
            Integer.toString(due));
      }
    }
    RemainderYard yard = new RemainderYard();
    yard.meet(LEAST, 9999);
    yard.meet(LEAST, 9998);
    yard.meet(LEAST, 9995);
    check.same("meet: the least int thrice", yard.apart(), -1);
    check.tells("meet: the least int thrice", yard, yard.meeting(),
        big(LEAST).mod(Yards.product(9999, 9998, 9995)).toString());
    yard.forget();
    yard.meet(LEAST, 6);
    yard.meet(MOST, 4);
    check.same("meet: the least and the greatest are apart", yard.apart(), 1);
  }

  private static RemainderYard twelve() {
    RemainderYard yard = Check.yard(3, 5, 7);
    for (int row = 0; row < 12; row++) {
      yard.set(row, 3 + row * row);
    }
    return yard;
  }

  private static void determinantGoesRound() {
    for (int first = MOST - 20; first < MOST; first++) {
      int asked = first;
      check.refuses("determinant from " + first, EndsTest::twelve, x -> x.determinant(0, asked), Yards.ROW);
    }
    for (int first : new int[] {MOST, LEAST, LEAST + 1, -9, -8, -1, 4, 12}) {
      check.refuses("determinant from " + first, EndsTest::twelve, x -> x.determinant(0, first), Yards.ROW);
    }
    check.same("determinant from 3, the greatest", Check.outcome(twelve(), x -> x.determinant(0, 3))
        instanceof Class, false);
  }

  private static void isEnoughGoesRound() {
    for (int first = MOST - 20; first < MOST; first++) {
      int asked = first;
      check.refuses("isEnough from " + first, EndsTest::twelve, x -> x.isEnough(asked), Yards.ROW);
    }
    for (int first : new int[] {MOST, LEAST, LEAST + 1, -9, -8, -1, 4, 12}) {
      check.refuses("isEnough from " + first, EndsTest::twelve, x -> x.isEnough(first), Yards.ROW);
    }
    check.same("isEnough from 3, the greatest", Check.outcome(twelve(), x -> x.isEnough(3)), false);
  }

  private static void polynomialGoesRound() {
    for (int many = 1; many <= 6; many++) {
      int asked = many;
      for (int first = MOST - 12; first < MOST; first++) {
        int from = first;
        check.refuses("polynomial of " + many + " from " + first, EndsTest::twelve,
            x -> x.polynomial(0, from, asked, 1), Yards.ROW);
      }
      for (int first : new int[] {MOST, LEAST, LEAST + 1, -many, 1 - many - 1, -1, 13 - many, 12}) {
        check.refuses("polynomial of " + many + " from " + first, EndsTest::twelve,
            x -> x.polynomial(0, first, asked, 1), Yards.ROW);
      }
      check.same("polynomial of " + many + " up to the last row",
          Check.outcome(twelve(), x -> x.polynomial(0, 12 - asked, asked, 1)) instanceof Class, false);
    }
  }

  private static void toldSets() {
    for (int dials = 0; dials <= 10; dials++) {
      int[] some = java.util.Arrays.copyOf(Yards.PRIMES, dials);
      RemainderYard yard = Check.yard(some);
      yard.set(5, 6469693229L);
      int all = (1 << dials) - 1;
      for (int set : new int[] {LEAST, -1, all + 1, all + 2, (2 << dials) - 1, 1 << 30, MOST}) {
        check.same("told: set " + set + " of " + dials, Check.outcome(yard, x -> x.told(5, set)),
            Yards.RANGE);
      }
      check.tells("told: all of " + dials, yard, yard.told(5, all),
          Yards.product(some).subtract(BigInteger.ONE).toString());
      check.tells("told: none of " + dials, yard, yard.told(5, 0), "0");
    }
  }

  private static void toldSetsOfTen() {
    RemainderYard yard = Check.yard(Yards.GREAT);
    yard.set(0, -1);
    for (int set = 0; set < 1024; set += 11) {
      yard = Check.yard(Yards.GREAT);
      yard.set(0, -1);
      BigInteger product = BigInteger.ONE;
      for (int i = 0; i < 10; i++) {
        product = (set >> i & 1) == 1 ? product.multiply(big(Yards.GREAT[i])) : product;
      }
      check.tells("told: set " + set, yard, yard.told(0, set),
          product.subtract(BigInteger.ONE).toString());
    }
  }

  private static void toldNoWheel() {
    RemainderYard yard = Check.yard(3, 5);
    yard.set(0, 14);
    check.tells("told: 'the least number, not below 0', by no wheel", yard, yard.told(0, 0), "0");
    check.tells("told: by one wheel", yard, yard.told(0, 2), "4");
    RemainderYard bare = new RemainderYard();
    check.tells("told: without dials", bare, bare.told(0, 0), "0");
  }

  /** What the document says of checksum(), over BigInteger, so that it does not go round. */
  private static BigInteger sum(RemainderYard yard, int spare, int[] conditions) {
    BigInteger factor = big(31);
    BigInteger sum = big(7).multiply(factor).add(big(spare));
    for (int i = 0; i < yard.dials(); i++) {
      sum = sum.multiply(factor).add(big(yard.dialAt(i)));
    }
    for (int row = 0; row < 12; row++) {
      for (int i = 0; i < yard.dials(); i++) {
        sum = sum.multiply(factor).add(big(yard.wheel(row, i)));
      }
    }
    for (int part : conditions) {
      sum = sum.multiply(factor).add(big(part));
    }
    String text = Check.textOf(yard);
    for (int i = 0; i < text.length(); i++) {
      sum = sum.multiply(factor).add(big(text.charAt(i)));
    }
    return sum;
  }

  private static void checksumGoesRound() {
    boolean[] seen = new boolean[2];
    for (int many = 0; many <= 80; many++) {
      RemainderYard yard = new RemainderYard();
      Check.type(yard, "~".repeat(many));
      BigInteger due = sum(yard, 0, new int[0]);
      check.same("checksum: " + many + " signs", yard.checksum(), due.longValue());
      check.same("checksum: it goes round", due.bitLength() > 63, many > 11);
      seen[yard.checksum() < 0 ? 1 : 0] = true;
    }
    check.same("checksum: sums below 0 were seen, and others", seen[0] && seen[1], true);
  }

  private static void checksumOfEightConditions() {
    for (int many = 0; many <= 8; many++) {
      RemainderYard yard = new RemainderYard();
      int[] conditions = new int[2 * many];
      for (int i = 0; i < many; i++) {
        conditions[2 * i] = 9999 - i;
        conditions[2 * i + 1] = 9990 - i;
        yard.meet(-9, 9999 - i);
      }
      check.same("checksum: 'for each condition', " + many, yard.checksum(),
          sum(yard, 0, conditions).longValue());
    }
  }

  private static void checksumOrder() {
    RemainderYard yard = Check.yard(Yards.GREAT);
    yard.setSpare(10);
    for (int row = 0; row < 12; row++) {
      yard.set(row, Long.MIN_VALUE + 98765432123456789L * row);
    }
    yard.meet(-1, 9999);
    yard.meet(5, 1);
    yard.meet(7, 9);
    Check.type(yard, " ~0aZ");
    int[] conditions = {9999, 9998, 1, 0, 9, 7};
    check.same("checksum: all parts in their order", yard.checksum(), sum(yard, 10, conditions).longValue());
  }

  private static void checksumParts() {
    RemainderYard yard = new RemainderYard();
    check.same("checksum: '7 at first, then 31 times itself plus how many dials are spare'",
        yard.checksum(), 217L);
    yard.addDial(2);
    check.same("checksum: a dial and twelve wheels at 0", yard.checksum(),
        sum(yard, 0, new int[0]).longValue());
    yard.setSpare(1);
    check.same("checksum: it is spare", yard.checksum(), sum(yard, 1, new int[0]).longValue());
    long before = yard.checksum();
    yard.turn(11, 0, 1);
    check.same("checksum: the last wheel counts 1", yard.checksum(), before + 1);
    yard.turn(11, 0, 0);
    yard.turn(10, 0, 1);
    check.same("checksum: the last but one counts 31", yard.checksum(), before + 31);
    yard.set(10, 0);
    check.same("checksum: what is kept does not count", yard.checksum(), before);
    yard.undo();
    check.same("checksum: nor undo()", yard.checksum(), before + 31);
  }
}
