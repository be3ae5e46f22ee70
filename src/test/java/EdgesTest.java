import java.math.BigInteger;

/** Answers at the very edge: each at the bound that the document names, and by 1 to its sides. */
public final class EdgesTest {
  private static final Check check = new Check("EdgesTest");

  public static void main(String[] args) {
    check.all(EdgesTest.class);
  }

  private static BigInteger big(long value) {
    return BigInteger.valueOf(value);
  }

  /** Nine rows from 0, all 0 but for one. */
  private static RemainderYard nine(BigInteger number, int row, int... dials) {
    RemainderYard yard = Check.yard(dials);
    Yards.put(yard, row, number);
    return yard;
  }

  private static void isEnoughExactly() {
    // 12 times the third power of 1, 2, 6, 30, 210, 2310, 30030 and so on, as products of dials
    int[][] yards = {{3, 4}, {32, 3}, {32, 81}, {32, 81, 125}, {32, 81, 125, 343},
        {32, 81, 125, 343, 1331}, {32, 81, 125, 343, 1331, 2197}, {32, 81, 125, 343, 1331, 2197, 4913},
        {32, 81, 125, 343, 1331, 2197, 4913, 6859}};
    long[] roots = {1, 2, 6, 30, 210, 2310, 30030, 510510, 9699690};
    for (int i = 0; i < yards.length; i++) {
      BigInteger root = big(roots[i]);
      check.same("12 times the third power", root.pow(3).multiply(big(12)), Yards.product(yards[i]));
      for (int row = 0; row < 9; row++) {
        String what = "isEnough: 12 times the third power of " + root + " is the product, row " + row;
        check.same(what, nine(root, row, yards[i]).isEnough(0), false);
        check.same(what + ", below 0", nine(root.negate(), row, yards[i]).isEnough(0), false);
        BigInteger less = root.subtract(BigInteger.ONE);
        check.same(what + ", less by 1", nine(less, row, yards[i]).isEnough(0), true);
        check.same(what + ", less by 1, below 0", nine(less.negate(), row, yards[i]).isEnough(0), true);
      }
    }
  }

  private static void isEnoughByOne() {
    check.same("isEnough: 96 below 97", nine(big(2), 0, 97).isEnough(0), true);
    check.same("isEnough: 96 not below 95", nine(big(2), 0, 95).isEnough(0), false);
    check.same("isEnough: 12 below 13", nine(big(1), 0, 13).isEnough(0), true);
    check.same("isEnough: 12 not below 12", nine(big(1), 0, 12).isEnough(0), false);
    check.same("isEnough: 12 not below 11", nine(big(1), 0, 11).isEnough(0), false);
    check.same("isEnough: 324 below 325", nine(big(3), 0, 325).isEnough(0), true);
    check.same("isEnough: 324 not below 323", nine(big(3), 0, 323).isEnough(0), false);
    check.same("isEnough: 0 below 2", nine(big(0), 0, 2).isEnough(0), true);
    check.same("isEnough: 0 below 1", new RemainderYard().isEnough(0), true);
    check.same("isEnough: 12 not below 2", nine(big(1), 0, 2).isEnough(0), false);
  }

  private static void isEnoughBelowZero() {
    check.same("isEnough: 'without their signs', 95 by 97", nine(big(95), 3, 97).isEnough(0), true);
    check.same("isEnough: 'without their signs', 94 by 97", nine(big(94), 3, 97).isEnough(0), false);
    RemainderYard yard = nine(big(94), 3, 97);
    yard.set(4, 2);
    check.same("isEnough: the greatest is one below 0", yard.isEnough(0), false);
    yard.set(3, 96);
    check.same("isEnough: the greatest is not the one below 0", yard.isEnough(0), true);
  }

  private static void isEnoughOfHalf() {
    for (int[] dials : new int[][] {{2}, {4, 9}, Yards.PRIMES, Yards.GREAT}) {
      BigInteger half = Yards.product(dials).shiftRight(1);
      check.same("isEnough: half the product", nine(half, 8, dials).isEnough(0), false);
    }
  }

  private static void isEnoughTheGreatestOfNine() {
    RemainderYard yard = Check.yard(97);
    for (int row = 0; row < 9; row++) {
      yard.set(row, row % 3 - 1);
    }
    yard.set(8, 2);
    check.same("isEnough: 'the greatest of', 2", yard.isEnough(0), true);
    yard.set(0, -3);
    check.same("isEnough: 'the greatest of', -3", yard.isEnough(0), false);
  }

  private static void isEnoughJustNine() {
    for (int first = 0; first <= 3; first++) {
      for (int row = 0; row < 12; row++) {
        boolean inside = row >= first && row < first + 9;
        check.same("isEnough: 'the others follow it', from " + first + ", row " + row,
            nine(big(3), row, 97).isEnough(first), !inside);
      }
    }
  }

  private static boolean isOver(BigInteger a, BigInteger b, char act, int... dials) {
    RemainderYard yard = Check.yard(dials);
    Yards.put(yard, 4, a);
    Yards.put(yard, 9, b);
    boolean over = yard.isOver(4, 9, act);
    check.same("isOver: in the other order", yard.isOver(9, 4, act), over);
    return over;
  }

  private static void isOverSum() {
    for (int[] dials : new int[][] {{2}, {9999}, {3, 5, 7}, Yards.PRIMES, Yards.GREAT}) {
      BigInteger product = Yards.product(dials);
      BigInteger one = BigInteger.ONE;
      for (BigInteger a : new BigInteger[] {one, product.shiftRight(1), product.subtract(one)}) {
        BigInteger rest = product.subtract(a);
        String what = "isOver: the sum, " + a + " by " + product;
        check.same(what + ", just the product", isOver(a, rest, '+', dials), true);
        check.same(what + ", less by 1", isOver(a, rest.subtract(one), '+', dials), false);
        if (a.compareTo(one) > 0) {
          check.same(what + ", more by 1", isOver(a, rest.add(one), '+', dials), true);
        }
      }
      BigInteger most = product.subtract(one);
      check.same("isOver: the greatest twice", isOver(most, most, '+', dials), true);
    }
  }

  private static void isOverProduct() {
    int[][] factors = {{14, 15}, {7, 30}, {6, 35}, {2, 105}, {10, 21}, {3, 70}};
    for (int[] parts : factors) {
      String what = "isOver: the product, " + parts[0] + " times " + parts[1];
      check.same(what, isOver(big(parts[0]), big(parts[1]), '*', 2, 3, 5, 7), true);
      check.same(what + " less 1", isOver(big(parts[0]), big(parts[1] - 1), '*', 2, 3, 5, 7), false);
      check.same(what + " and 1", isOver(big(parts[0]), big(parts[1] + 1), '*', 2, 3, 5, 7), true);
    }
    check.same("isOver: 11 times 19, less by 1", isOver(big(11), big(19), '*', 2, 3, 5, 7), false);
    check.same("isOver: 209 times 1, less by 1", isOver(big(209), big(1), '*', 2, 3, 5, 7), false);
    check.same("isOver: 14 squared by 196", isOver(big(14), big(14), '*', 4, 49), true);
    check.same("isOver: 14 squared by 197", isOver(big(14), big(14), '*', 197), false);
    check.same("isOver: 14 squared by 195", isOver(big(14), big(14), '*', 195), true);
  }

  private static void isOverByAllDials() {
    for (int spare = 1; spare <= 3; spare++) {
      RemainderYard yard = Check.yard(3, 5, 7);
      yard.setSpare(spare);
      yard.set(0, 8);
      yard.set(1, 13);
      yard.set(2, 15);
      yard.set(3, 7);
      check.same("isOver: 'the product of all dials', 13 + 15", yard.isOver(1, 2, '+'), false);
      check.same("isOver: 'the product of all dials', 8 times 13", yard.isOver(0, 1, '*'), false);
      check.same("isOver: 'the product of all dials', 15 times 7", yard.isOver(2, 3, '*'), true);
    }
  }

  private static void isOverProductOfGreatOnes() {
    BigInteger one = BigInteger.ONE;
    for (int set = 1; set < 1023; set += 7) {
      BigInteger a = one;
      BigInteger b = one;
      for (int i = 0; i < 10; i++) {
        BigInteger dial = big(Yards.GREAT[i]);
        a = (set >> i & 1) == 1 ? a.multiply(dial) : a;
        b = (set >> i & 1) == 1 ? b : b.multiply(dial);
      }
      check.same("isOver: just the product of great dials", isOver(a, b, '*', Yards.GREAT), true);
      check.same("isOver: great dials, less by the first", isOver(a, b.subtract(one), '*', Yards.GREAT),
          false);
      check.same("isOver: great dials, less by the second", isOver(a.subtract(one), b, '*', Yards.GREAT),
          false);
    }
  }

  private static void isOverOfZeros() {
    check.same("isOver: 0 and 0, the sum", isOver(big(0), big(0), '+', 2), false);
    check.same("isOver: 0 and 0, the product", isOver(big(0), big(0), '*', 2), false);
    check.same("isOver: 1 and 0 by 2, the sum", isOver(big(1), big(0), '+', 2), false);
    check.same("isOver: 1 and 1 by 2, the product", isOver(big(1), big(1), '*', 2), false);
    check.same("isOver: without dials, the sum", isOver(big(0), big(0), '+'), false);
    check.same("isOver: without dials, the product", isOver(big(0), big(0), '*'), false);
  }

  private static void compareNeighbours() {
    BigInteger weight = BigInteger.ONE;
    for (int i = 0; i < 10; i++) {
      RemainderYard yard = Check.yard(Yards.GREAT);
      Yards.put(yard, 0, weight.subtract(BigInteger.ONE));
      Yards.put(yard, 1, weight);
      Yards.put(yard, 2, weight);
      check.same("compare: less by 1, " + weight, yard.compare(0, 1), -1);
      check.same("compare: more by 1, " + weight, yard.compare(1, 0), 1);
      check.same("compare: the same, " + weight, yard.compare(1, 2), 0);
      check.same("compare: with itself, " + weight, yard.compare(1, 1), 0);
      weight = weight.multiply(big(Yards.GREAT[i]));
    }
    RemainderYard yard = Check.yard(3, 5, 7);
    yard.set(0, -1);
    yard.set(1, 0);
    check.same("compare: the numbers, not the signed ones", yard.compare(0, 1), 1);
    yard.setSpare(3);
    check.same("compare: spare dials count", yard.compare(0, 1), 1);
  }

  private static Object fractionOf(RemainderYard yard) {
    Object answer = Check.outcome(yard, x -> x.fraction(6));
    return answer instanceof Class ? answer : Check.textOf(yard);
  }

  private static void fractionAboveTheLine() {
    for (int root = 2; root <= 70; root++) {
      int twice = 2 * root * root;
      for (int product = twice - 1; product <= twice + 1; product++) {
        for (int sign = -1; sign <= 1; sign += 2) {
          RemainderYard yard = Check.yard(product);
          yard.set(6, sign * root);
          check.same("fraction: twice the square of " + sign * root + " above the line, by " + product,
              fractionOf(yard), product > twice ? (Object) (sign * root + "/1") : Yards.NONE);
        }
      }
    }
  }

  private static void fractionBelowTheLine() {
    for (int root = 2; root <= 70; root++) {
      int twice = 2 * root * root;
      // twice the square itself has a common divisor with the root, so that there is no such row
      for (int product = twice - 1; product <= twice + 1; product += 2) {
        for (int sign = -1; sign <= 1; sign += 2) {
          RemainderYard yard = Check.yard(product);
          yard.setFraction(6, sign, root);
          check.same("fraction: twice the square of " + root + " below the line, by " + product,
              fractionOf(yard), product > twice ? (Object) (sign + "/" + root) : Yards.NONE);
        }
      }
    }
  }

  private static void fractionBothAtTheEdge() {
    for (int root = 3; root <= 70; root++) {
      for (int product = 2 * root * root - 1; product <= 2 * root * root + 1; product++) {
        if (big(product).gcd(big(root - 1)).intValue() == 1) {
          RemainderYard yard = Check.yard(product);
          yard.setFraction(6, -root, root - 1);
          check.same("fraction: " + -root + "/" + (root - 1) + " by " + product, fractionOf(yard),
              product > 2 * root * root ? (Object) (-root + "/" + (root - 1)) : Yards.NONE);
        }
      }
    }
  }

  private static void fractionOfGreatDials() {
    BigInteger product = Yards.product(Yards.GREAT);
    BigInteger most = product.subtract(BigInteger.ONE).shiftRight(1).sqrt();
    BigInteger more = most.add(BigInteger.ONE);
    check.same("twice its square is below", most.pow(2).shiftLeft(1).compareTo(product) < 0, true);
    check.same("twice its square is not", more.pow(2).shiftLeft(1).compareTo(product) < 0, false);
    RemainderYard yard = Check.yard(Yards.GREAT);
    Yards.put(yard, 6, most);
    check.same("fraction: the greatest above the line", fractionOf(yard), most + "/1");
    Yards.put(yard, 6, most.negate());
    check.same("fraction: the greatest below 0", fractionOf(yard), "-" + most + "/1");
    Yards.put(yard, 6, more);
    check.same("fraction: more by 1 above the line", fractionOf(yard), Yards.NONE);
    BigInteger below = most;
    while (!below.gcd(product).equals(BigInteger.ONE)) {
      below = below.subtract(BigInteger.ONE);
    }
    Yards.put(yard, 6, below.modInverse(product));
    check.same("fraction: a great one below the line", fractionOf(yard), "1/" + below);
    below = more;
    while (!below.gcd(product).equals(BigInteger.ONE)) {
      below = below.add(BigInteger.ONE);
    }
    Yards.put(yard, 6, below.modInverse(product));
    check.same("fraction: one too great below the line", fractionOf(yard), Yards.NONE);
  }

  private static void fractionOfFewNumbers() {
    check.same("fraction: without dials", fractionOf(new RemainderYard()), Yards.NONE);
    check.same("fraction: 0 by 2", fractionOf(Check.yard(2)), Yards.NONE);
    check.same("fraction: 0 by 3", fractionOf(Check.yard(3)), "0/1");
    RemainderYard yard = Check.yard(2);
    yard.set(6, 1);
    check.same("fraction: 1 by 2", fractionOf(yard), Yards.NONE);
    String[] due = {"0/1", "1/1", "-1/1"};
    for (int number = 0; number < 3; number++) {
      yard = Check.yard(3);
      yard.set(6, number);
      check.same("fraction: " + number + " by 3", fractionOf(yard), due[number]);
    }
  }

  private static void fractionCommonDivisors() {
    RemainderYard yard = Check.yard(11, 13);
    yard.setFraction(6, 6, 8);
    check.same("fraction: 'no common divisor above 1', 6/8", fractionOf(yard), "3/4");
    yard.setFraction(6, 8, -8);
    check.same("fraction: 'no common divisor above 1', 8/-8", fractionOf(yard), "-1/1");
    yard.setFraction(6, 0, -8);
    check.same("fraction: 'no common divisor above 1', 0/-8", fractionOf(yard), "0/1");
    yard.set(6, 11);
    check.same("fraction: a row with no small one", fractionOf(yard), Yards.NONE);
  }

  private static void fractionCommonDivisorWithADial() {
    // 2 * 104 is 6 by 202, but 2 is a divisor of a dial, and 104 is not 3 by 202
    for (int[] dials : new int[][] {{202}, {2, 101}, {101, 2}}) {
      for (int spare = 0; spare <= dials.length; spare++) {
        RemainderYard yard = Check.yard(dials);
        yard.setSpare(spare);
        yard.set(6, 104);
        check.same("fraction: 'no common divisor above 1 with a dial', spare " + spare, fractionOf(yard),
            Yards.NONE);
      }
    }
  }

  private static void inverseOfEachPlace() {
    for (int dial : new int[] {2, 4, 7, 9, 10, 12, 36, 97, 8192}) {
      for (int place = 0; place < Math.min(dial, 200); place++) {
        RemainderYard yard = Check.yard(11, 17, dial);
        yard.set(0, 1);
        yard.set(1, 1);
        yard.turn(0, 2, place);
        boolean there = big(place).gcd(big(dial)).equals(BigInteger.ONE);
        String what = "'has each wheel at the remainder of 1': " + place + " by " + dial;
        Object due = there ? (Object) 0 : Yards.ARITHMETIC;
        check.same(what + ", inverse", Check.outcome(yard, x -> x.inverse(2, 0)), due);
        check.same(what + ", divide", Check.outcome(yard, x -> x.divide(3, 1, 0)), due);
        check.same(what + ", power", Check.outcome(yard, x -> x.power(4, 0, -1)), due);
        yard.multiply(5, 2, 0);
        yard.multiply(6, 3, 0);
        yard.multiply(7, 4, 0);
        check.same(what + ", the product", yard.wheel(5, 2) + " " + yard.wheel(6, 2) + " "
            + yard.wheel(7, 2), there ? "1 1 1" : "0 0 0");
      }
    }
  }

  /** All numbers by all small products, against all fractions, one after the other. */
  private static void fractionsAllOfSmallProducts() {
    int[][] yards = {{2}, {3}, {4}, {5}, {2, 3}, {7}, {8}, {9}, {2, 5}, {3, 4}, {2, 7}, {17}, {18}, {19},
        {5, 4}, {2, 3, 5}, {32}, {33}, {49}, {2, 25}, {3, 17}, {71}, {8, 9}, {73}, {9, 11}, {3, 5, 7}};
    for (int[] dials : yards) {
      int product = Yards.product(dials).intValue();
      for (int number = 0; number < product; number++) {
        RemainderYard yard = Check.yard(dials);
        yard.set(6, number);
        check.same("fraction: " + number + " by " + product, fractionOf(yard), fraction(number, product));
      }
    }
  }

  private static Object fraction(int number, int product) {
    for (int below = 1; 2 * below * below < product; below++) {
      for (int above = -product; above <= product; above++) {
        if (2 * above * above < product && matches(above, below, number, product)) {
          return above + "/" + below;
        }
      }
    }
    return Yards.NONE;
  }

  private static boolean matches(int above, int below, int number, int product) {
    return Math.floorMod(below * number - above, product) == 0
        && big(above).gcd(big(below)).intValue() == 1 && big(below).gcd(big(product)).intValue() == 1;
  }

  private static void openOne() {
    int[][] yards = {{2}, {9999}, {13, 11, 17}, {17, 13, 11}, Yards.PRIMES, Yards.GREAT};
    int[] least = {2, 9999, 11, 11, 2, 9941};
    for (int i = 0; i < yards.length; i++) {
      RemainderYard yard = Check.yard(yards[i]);
      check.tells("open: k 1 is the least dial", yard, yard.open(1), Integer.toString(least[i]));
    }
  }

  private static void openAll() {
    int[][] yards = {{2}, {9999}, {13, 11, 17}, {17, 13, 11}, Yards.PRIMES, Yards.GREAT};
    int[] least = {2, 9999, 11, 11, 2, 9941};
    for (int i = 0; i < yards.length; i++) {
      RemainderYard yard = Check.yard(yards[i]);
      check.tells("open: k all dials is the least dial", yard, yard.open(yards[i].length),
          Integer.toString(least[i]));
      int beyond = yards[i].length + 1;
      check.same("open: k above all dials", Check.outcome(yard, x -> x.open(beyond)), Yards.RANGE);
      check.same("open: k 0", Check.outcome(yard, x -> x.open(0)), Yards.RANGE);
    }
    RemainderYard spare = Check.yard(13, 11, 17);
    spare.setSpare(2);
    check.tells("open: spare dials count", spare, spare.open(2), "8");
  }

  private static void openCut() {
    for (int[] dials : new int[][] {Yards.PRIMES, Yards.GREAT, {97, 89, 83, 79, 73}, {4, 9, 5, 7, 121}}) {
      int[] sorted = dials.clone();
      java.util.Arrays.sort(sorted);
      for (int k = 1; k <= dials.length; k++) {
        BigInteger least = Yards.product(java.util.Arrays.copyOf(sorted, k));
        BigInteger greatest = Yards.product(java.util.Arrays.copyOfRange(sorted, dials.length - k + 1,
            dials.length));
        RemainderYard yard = Check.yard(dials);
        check.tells("open: k " + k + ", 'cut'", yard, yard.open(k), least.divide(greatest).toString());
      }
    }
    // 6 by 6 is just 1, 12 by 7 is cut
    RemainderYard exact = Check.yard(3, 4, 7);
    check.tells("open: 12 by 7", exact, exact.open(2), "1");
    RemainderYard below = Check.yard(2, 3, 7);
    check.tells("open: 6 by 7", below, below.open(2), "0");
  }

  private static void divideByEdges() {
    RemainderYard yard = Check.yard(3, 5, 7);
    int[] dials = {3, 5, 7};
    for (int number = 0; number < 105; number++) {
      yard = Check.yard(dials);
      yard.set(0, number);
      for (int i = 0; i < 3; i++) {
        check.same("divideBy: 'the remainder', " + number + " by " + dials[i], yard.divideBy(1, 0, i),
            number % dials[i]);
        check.same("divideBy: 'cut', " + number + " by " + dials[i], Yards.number(yard, 1).intValue(),
            number / dials[i]);
      }
    }
    yard.set(0, -1);
    check.same("divideBy: the number, not the signed one", yard.divideBy(1, 0, 2), 6);
    check.numberIs("divideBy: the number, not the signed one", yard, 1, "14");
    yard.setSpare(3);
    check.same("divideBy: a spare dial", yard.divideBy(1, 0, 1), 4);
    check.numberIs("divideBy: a spare dial", yard, 1, "20");
  }

  private static void determinantSigns() {
    int[][] orders = {{0, 1, 2}, {0, 2, 1}, {1, 0, 2}, {1, 2, 0}, {2, 0, 1}, {2, 1, 0}};
    int[] due = {1, -1, -1, 1, 1, -1};
    for (int i = 0; i < 6; i++) {
      RemainderYard yard = Check.yard(101, 103);
      for (int line = 0; line < 3; line++) {
        yard.set(3 * line + orders[i][line], 2 + line);
      }
      yard.determinant(11, 0);
      check.tells("determinant: 'three by three, line by line', " + i, yard, yard.tellSigned(11),
          Integer.toString(24 * due[i]));
    }
  }

  private static void polynomialOrder() {
    for (int many = 1; many <= 6; many++) {
      RemainderYard yard = Check.yard(9999, 9998, 9997);
      long due = 0;
      long power = 1;
      for (int i = 0; i < many; i++) {
        yard.set(3 + i, i + 1);
        due += (i + 1) * power;
        power *= 10;
      }
      yard.set(11, 10);
      yard.polynomial(0, 3, many, 11);
      check.tells("polynomial: 'the one without the variable first', " + many, yard, yard.tell(0),
          Long.toString(due));
    }
    RemainderYard zero = Check.yard(7, 9);
    zero.set(3, 5);
    zero.set(4, 6);
    zero.polynomial(0, 3, 2, 11);
    check.tells("polynomial: the variable is 0", zero, zero.tell(0), "5");
  }

  private static void isSoundWithEightConditions() {
    int[] dials = {9999, 9998, 9997, 9995, 9991, 9989, 9973, 1};
    for (int last = 0; last < 2; last++) {
      RemainderYard yard = Check.yard(3, 5);
      for (int i = 0; i < 8; i++) {
        yard.meet(7 * i, i == 7 - last ? 9999 : dials[i]);
      }
      check.same("eight conditions, apart", yard.apart() < 0, false);
      check.same("isSound: eight conditions, apart", yard.isSound(), true);
    }
    RemainderYard yard = Check.yard(3, 5);
    for (int i = 0; i < 8; i++) {
      yard.meet(-5, dials[i]);
    }
    check.same("eight conditions, all met", yard.apart(), -1);
    check.same("isSound: eight conditions, all met", yard.isSound(), true);
  }

  private static void isSoundAtTheEdges() {
    check.same("isSound: a new yard", new RemainderYard().isSound(), true);
    check.same("isSound: all that there can be", Yards.full().isSound(), true);
    check.same("isSound: something of all", Yards.crowded().isSound(), true);
    for (int[] dials : new int[][] {{2}, {9999}, {2, 9999}, Yards.PRIMES, Yards.GREAT}) {
      BigInteger product = Yards.product(dials);
      RemainderYard yard = Check.yard(dials);
      BigInteger[] numbers = {big(0), big(1), big(-1), product.shiftRight(1), product.sqrt(),
          product.shiftRight(1).sqrt(), product.shiftRight(1).sqrt().negate(), big(-2)};
      for (int row = 0; row < 12; row++) {
        Yards.put(yard, row, numbers[row % numbers.length]);
      }
      yard.meet(1, 9999);
      yard.meet(0, 9998);
      check.same("isSound: conditions that can be met", yard.isSound(), true);
      yard.meet(0, 3);
      check.same("isSound: conditions that are apart", yard.isSound(), true);
    }
  }
}
