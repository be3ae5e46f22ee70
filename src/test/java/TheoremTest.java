import java.math.BigInteger;

/** The theorem of the Terms, sentence by sentence, and where sums and products go round. */
public final class TheoremTest {
  private static final Check check = new Check("TheoremTest");

  public static void main(String[] args) {
    check.all(TheoremTest.class);
  }

  private static BigInteger big(long value) {
    return BigInteger.valueOf(value);
  }

  /** The number of a row that is made of the rows 1 and 2, which are these numbers. */
  private static BigInteger made(int[] dials, BigInteger a, BigInteger b, Check.Call call) {
    RemainderYard yard = Check.yard(dials);
    Yards.put(yard, 1, a);
    Yards.put(yard, 2, b);
    call.on(yard);
    return Yards.number(yard, 3);
  }

  private static void numbersAndRowsAreOneToOne() {
    java.util.Set<String> seen = new java.util.HashSet<>();
    for (int number = 0; number < 420; number++) {
      RemainderYard yard = Check.yard(4, 3, 5, 7);
      yard.set(0, number);
      check.same("'are one to one': " + number, Yards.number(yard, 0).intValue(), number);
      seen.add(Yards.row(yard, 0));
    }
    check.same("'are one to one': as many rows as numbers", seen.size(), 420);
  }

  private static void sumsGoRound() {
    for (int[] dials : new int[][] {{2}, {3, 5, 7}, {9999, 9998, 9997}, Yards.PRIMES, Yards.GREAT}) {
      BigInteger product = Yards.product(dials);
      BigInteger most = product.subtract(BigInteger.ONE);
      BigInteger half = product.shiftRight(1);
      Check.Call add = x -> x.add(3, 1, 2);
      check.same("add: the product less 1, and 0", made(dials, most, big(0), add), most);
      check.same("add: the product less 1, and 1", made(dials, most, big(1), add), big(0));
      check.same("add: twice the product less 1", made(dials, most, most, add), most.subtract(big(1)));
      check.same("add: the halves", made(dials, half, product.subtract(half), add), big(0));
      check.same("add: the halves, less by 1", made(dials, half, most.subtract(half), add), most);
    }
  }

  private static void differencesGoRound() {
    for (int[] dials : new int[][] {{2}, {3, 5, 7}, {9999, 9998, 9997}, Yards.PRIMES, Yards.GREAT}) {
      BigInteger most = Yards.product(dials).subtract(BigInteger.ONE);
      Check.Call subtract = x -> x.subtract(3, 1, 2);
      check.same("subtract: 0 less 1", made(dials, big(0), big(1), subtract), most);
      check.same("subtract: 0 less 0", made(dials, big(0), big(0), subtract), big(0));
      check.same("subtract: 1 less 1", made(dials, big(1), big(1), subtract), big(0));
      check.same("subtract: 0 less the greatest", made(dials, big(0), most, subtract), big(1));
      check.same("subtract: the greatest less 0", made(dials, most, big(0), subtract), most);
    }
  }

  private static void productsGoRound() {
    for (int[] dials : new int[][] {{2}, {3, 5, 7}, {9999, 9998, 9997}, Yards.PRIMES, Yards.GREAT}) {
      BigInteger product = Yards.product(dials);
      BigInteger most = product.subtract(BigInteger.ONE);
      BigInteger root = product.sqrt();
      Check.Call multiply = x -> x.multiply(3, 1, 2);
      check.same("multiply: -1 and -1", made(dials, most, most, multiply), big(1));
      check.same("multiply: -1 and 1", made(dials, most, big(1), multiply), most);
      check.same("multiply: -1 and 0", made(dials, most, big(0), multiply), big(0));
      BigInteger more = root.add(BigInteger.ONE);
      check.same("multiply: the root", made(dials, root, root, multiply), root.pow(2).mod(product));
      if (more.compareTo(product) < 0) {
        check.same("multiply: above the root", made(dials, more, more, multiply), more.pow(2).mod(product));
      }
      BigInteger first = big(dials[0]);
      check.same("multiply: to just the product", made(dials, first.mod(product),
          product.divide(first).mod(product), multiply), big(0));
    }
  }

  private static void mixedDigitsOrderAsNumbersDo() {
    for (int number = 0; number + 1 < 420; number++) {
      RemainderYard yard = Check.yard(4, 3, 5, 7);
      yard.set(0, number);
      yard.set(1, number + 1);
      int due = 0;
      for (int i = 3; i >= 0 && due == 0; i--) {
        due = Integer.compare(yard.digit(0, i), yard.digit(1, i));
      }
      check.same("'the last one first, order as the numbers do': " + number, due, -1);
      check.same("compare: " + number, yard.compare(0, 1), -1);
    }
  }

  private static void anyWheelsTellANumber() {
    int[] dials = {7, 4, 11, 3, 5};
    int[] sorted = {3, 4, 5, 7, 11};
    for (int set = 1; set < 32; set++) {
      int k = Integer.bitCount(set);
      int limit = Yards.product(java.util.Arrays.copyOf(sorted, k)).intValue();
      for (int number : new int[] {0, 1, limit - 2, limit - 1}) {
        RemainderYard yard = Check.yard(dials);
        yard.set(0, number);
        check.tells("'any k wheels tell a number below': " + number + " by the set " + set, yard,
            yard.told(0, set), Integer.toString(number));
      }
    }
    RemainderYard yard = Check.yard(dials);
    yard.set(0, 60);
    check.tells("60 by the three least dials, at the bound", yard, yard.told(0, 0b11010), "0");
    check.tells("60 by another set of three", yard, yard.told(0, 0b01011), "60");
  }

  private static void fewerWheelsLeaveNumbersOpen() {
    int[] dials = {7, 4, 11, 3, 5};
    int[] sorted = {3, 4, 5, 7, 11};
    for (int k = 1; k <= 5; k++) {
      int limit = Yards.product(java.util.Arrays.copyOf(sorted, k)).intValue();
      int least = Integer.MAX_VALUE;
      for (int set = 0; set < 32; set++) {
        if (Integer.bitCount(set) == k - 1) {
          least = Math.min(least, fewestOpen(dials, set, limit));
        }
      }
      RemainderYard yard = Check.yard(dials);
      yard.open(k);
      int told = Integer.parseInt(Check.textOf(yard));
      check.same("'leave as many of these numbers open as is told, at least': k " + k, told <= least, true);
      check.same("'that is the product of the k least', k " + k, told, openOf(sorted, k));
    }
  }

  private static int openOf(int[] sorted, int k) {
    int above = Yards.product(java.util.Arrays.copyOf(sorted, k)).intValue();
    return above / Yards.product(java.util.Arrays.copyOfRange(sorted, 6 - k, 5)).intValue();
  }

  /** Of the numbers below the limit, the fewest that have the same remainders by a set. */
  private static int fewestOpen(int[] dials, int set, int limit) {
    int step = 1;
    for (int i = 0; i < 5; i++) {
      step *= (set >> i & 1) == 1 ? dials[i] : 1;
    }
    int fewest = Integer.MAX_VALUE;
    for (int rest = 0; rest < step; rest++) {
      int many = rest < limit ? (limit - 1 - rest) / step + 1 : 0;
      fewest = Math.min(fewest, many);
    }
    return fewest;
  }

  private static void fractionIsTheOnlyOne() {
    // each fraction with small parts comes back, whatever it was made of
    for (int below = 1; below <= 17; below++) {
      for (int above = -17; above <= 17; above++) {
        BigInteger divisor = big(above).gcd(big(below));
        if (big(below).gcd(big(595)).equals(BigInteger.ONE)) {
          RemainderYard yard = Check.yard(7, 5, 17);
          yard.setFraction(0, above, below);
          check.tells("'is the only one with its remainders': " + above + "/" + below, yard,
              yard.fraction(0), above / divisor.intValue() + "/" + below / divisor.intValue());
        }
      }
    }
  }

  private static void conditionsCanBeMetIfEachTwoCan() {
    int[] dials = {4, 6, 9};
    for (int i = 0; i < 4 * 6 * 9; i++) {
      int[] rests = {i % 4, i / 4 % 6, i / 24};
      boolean each = true;
      for (int one = 0; one < 3; one++) {
        for (int other = one + 1; other < 3; other++) {
          RemainderYard two = new RemainderYard();
          two.meet(rests[one], dials[one]);
          two.meet(rests[other], dials[other]);
          each &= !(Check.outcome(two, x -> x.meeting()) instanceof Class);
        }
      }
      RemainderYard all = new RemainderYard();
      for (int one = 0; one < 3; one++) {
        all.meet(rests[one], dials[one]);
      }
      Object met = Check.outcome(all, x -> x.meeting());
      check.same("'exactly if each two of them can': " + i, !(met instanceof Class), each);
      check.same("apart: " + i, all.apart() < 0, each);
      check.same("isSound: " + i, all.isSound(), true);
    }
  }
}
