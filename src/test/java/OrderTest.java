import java.math.BigInteger;
import java.util.NoSuchElementException;

/** Promises 29 to 33: order. */
public final class OrderTest {
  private static final Class<?> ROW = IndexOutOfBoundsException.class;
  private static final Class<?> NONE = NoSuchElementException.class;
  private static final Class<?> WRONG = IllegalArgumentException.class;
  private static final int[] NO_ROWS = {-1, 12, 13, Integer.MAX_VALUE, Integer.MIN_VALUE};
  private static final int[] GREAT = {9999, 9998, 9997, 9995, 9991, 9989, 9973, 9967, 9949, 9941};
  private static final Check check = new Check("OrderTest");

  public static void main(String[] args) {
    digit();
    compare();
    sign();
    isOver();
    isOverGreat();
    isEnough();
    isEnoughGreat();
    check.end();
  }

  private static RemainderYard busy() {
    RemainderYard yard = Check.yard(3, 5, 7);
    yard.set(0, 23);
    yard.set(1, 104);
    yard.setSpare(1);
    Check.type(yard, "t");
    return yard;
  }

  private static void put(RemainderYard yard, int row, BigInteger number) {
    yard.erase();
    Check.type(yard, number.toString());
    yard.read(row);
  }

  private static BigInteger great() {
    BigInteger product = BigInteger.ONE;
    for (int dial : GREAT) {
      product = product.multiply(BigInteger.valueOf(dial));
    }
    return product;
  }

  private static void digit() {
    RemainderYard yard = busy();
    // 23 is 2 + 2 * 3 + 1 * 15, and 104 is 2 + 4 * 3 + 6 * 15
    int[] due = {2, 2, 1, 2, 4, 6, 0, 0, 0};
    for (int i = 0; i < 9; i++) {
      check.same("29: row " + i / 3 + ", dial " + i % 3, yard.digit(i / 3, i % 3), due[i]);
    }
    RemainderYard turned = Check.yard(7, 5, 3);
    turned.set(0, 23);
    // 2 + 3 * 7 + 0 * 35
    check.same("29: in the order of the dials", turned.digit(0, 0), 2);
    check.same("29: in the order of the dials", turned.digit(0, 1), 3);
    check.same("29: in the order of the dials", turned.digit(0, 2), 0);
    RemainderYard great = Check.yard(GREAT);
    put(great, 0, BigInteger.ONE.negate());
    for (int i = 0; i < 10; i++) {
      check.same("29: the greatest number, dial " + i, great.digit(0, i), GREAT[i] - 1);
    }
    for (int row : NO_ROWS) {
      check.refuses("29: row " + row, OrderTest::busy, x -> x.digit(row, 0), ROW);
      check.refuses("29: row " + row + " and no dial", OrderTest::busy, x -> x.digit(row, 3), ROW);
    }
    for (int index : new int[] {-1, 3, 10, Integer.MAX_VALUE, Integer.MIN_VALUE}) {
      check.refuses("29: dial " + index, OrderTest::busy, x -> x.digit(0, index), NONE);
    }
  }

  private static void compare() {
    RemainderYard yard = Check.yard(3, 5, 7);
    int[] numbers = {0, 1, 2, 3, 14, 15, 16, 52, 53, 89, 90, 104};
    for (int row = 0; row < 12; row++) {
      yard.set(row, numbers[row]);
    }
    for (int a = 0; a < 12; a++) {
      for (int b = 0; b < 12; b++) {
        check.same("30: compare " + numbers[a] + " " + numbers[b], yard.compare(a, b),
            Integer.compare(a, b));
      }
    }
    check.same("30: without dials", new RemainderYard().compare(0, 1), 0);
    for (int row : NO_ROWS) {
      check.refuses("30: compare " + row, OrderTest::busy, x -> x.compare(row, 0), ROW);
      check.refuses("30: compare .. " + row, OrderTest::busy, x -> x.compare(0, row), ROW);
    }
    RemainderYard asked = busy();
    asked.compare(0, 1);
    check.sameState("30: compare changes nothing", asked, busy());
  }

  private static void sign() {
    RemainderYard yard = busy();
    int[] numbers = {0, 1, 52, 53, 104};
    int[] due = {0, 1, 1, -1, -1};
    for (int i = 0; i < 5; i++) {
      yard.set(2, numbers[i]);
      check.same("31: " + numbers[i], yard.sign(2), due[i]);
    }
    RemainderYard even = Check.yard(2, 9);
    even.set(0, 8);
    check.same("31: 8 of 18", even.sign(0), 1);
    even.set(0, 9);
    check.same("31: 9 of 18", even.sign(0), -1);
    check.same("31: without dials", new RemainderYard().sign(11), 0);
    for (int row : NO_ROWS) {
      check.refuses("31: sign " + row, OrderTest::busy, x -> x.sign(row), ROW);
    }
  }

  private static void isOver() {
    RemainderYard yard = busy();
    yard.set(2, 81);
    yard.set(3, 82);
    yard.set(4, 15);
    yard.set(5, 7);
    yard.set(6, 13);
    yard.set(7, 8);
    check.same("32: 23 + 81", yard.isOver(0, 2, '+'), false);
    check.same("32: 23 + 82", yard.isOver(0, 3, '+'), true);
    check.same("32: 82 + 23", yard.isOver(3, 0, '+'), true);
    check.same("32: 104 + 104", yard.isOver(1, 1, '+'), true);
    check.same("32: 104 + 0", yard.isOver(1, 11, '+'), false);
    check.same("32: 15 * 7", yard.isOver(4, 5, '*'), true);
    check.same("32: 13 * 8", yard.isOver(6, 7, '*'), false);
    check.same("32: 104 * 0", yard.isOver(1, 11, '*'), false);
    check.same("32: 104 * 104", yard.isOver(1, 1, '*'), true);
    check.same("32: without dials", new RemainderYard().isOver(0, 1, '*'), false);
    check.same("32: without dials", new RemainderYard().isOver(0, 1, '+'), false);
    for (char act : new char[] {'-', '/', 'x', ' ', 0, ',', ')', (char) 65535}) {
      check.refuses("32: act " + (int) act, OrderTest::busy, x -> x.isOver(0, 1, act), WRONG);
    }
    for (int row : NO_ROWS) {
      check.refuses("32: isOver " + row, OrderTest::busy, x -> x.isOver(row, 0, '+'), ROW);
      check.refuses("32: isOver .. " + row, OrderTest::busy, x -> x.isOver(0, row, '*'), ROW);
      check.refuses("32: no row, no act", OrderTest::busy, x -> x.isOver(0, row, '?'), ROW);
    }
  }

  private static void isOverGreat() {
    RemainderYard yard = Check.yard(GREAT);
    BigInteger product = great();
    BigInteger root = product.sqrt();
    put(yard, 0, root);
    put(yard, 1, root.add(BigInteger.ONE));
    check.same("32: below the root", yard.isOver(0, 0, '*'), false);
    check.same("32: above the root", yard.isOver(1, 1, '*'), true);
    BigInteger factor = new BigInteger("98765432109876543210");
    BigInteger most = product.subtract(BigInteger.ONE).divide(factor);
    put(yard, 2, factor);
    put(yard, 3, most);
    put(yard, 4, most.add(BigInteger.ONE));
    check.same("32: just below", yard.isOver(2, 3, '*'), false);
    check.same("32: just not below", yard.isOver(4, 2, '*'), true);
    put(yard, 5, product.subtract(most));
    put(yard, 6, product.subtract(most).subtract(BigInteger.ONE));
    check.same("32: the sum is the product", yard.isOver(3, 5, '+'), true);
    check.same("32: the sum is less by 1", yard.isOver(3, 6, '+'), false);
    put(yard, 7, product.subtract(BigInteger.ONE));
    check.same("32: the greatest squared", yard.isOver(7, 7, '*'), true);
    check.same("32: the greatest twice", yard.isOver(7, 7, '+'), true);
  }

  private static void isEnough() {
    // 12 * 2 * 2 * 2 is 96, and 12 * 3 * 3 * 3 is 324
    RemainderYard yard = Check.yard(3, 5, 7);
    for (int first = 0; first <= 3; first++) {
      check.same("33: all 0", yard.isEnough(first), true);
    }
    yard.set(4, 2);
    yard.set(5, -2);
    yard.set(8, 1);
    check.same("33: 96 below 105", yard.isEnough(0), true);
    yard.set(8, -3);
    check.same("33: 324 not below 105", yard.isEnough(0), false);
    check.same("33: the last of the nine", yard.isEnough(3), false);
    yard.set(8, 0);
    yard.set(0, 3);
    check.same("33: the first of the nine", yard.isEnough(0), false);
    check.same("33: the row ahead of them", yard.isEnough(1), true);
    yard.set(0, 0);
    yard.set(9, 50);
    check.same("33: the row behind them", yard.isEnough(0), true);
    check.same("33: is the last one now", yard.isEnough(1), false);
    RemainderYard exact = Check.yard(3, 32);
    exact.set(2, -2);
    check.same("33: 96 not below 96", exact.isEnough(0), false);
    exact.set(2, 1);
    check.same("33: 12 below 96", exact.isEnough(0), true);
    check.same("33: without dials", new RemainderYard().isEnough(3), true);
    for (int first : new int[] {-1, 4, 11, 12, Integer.MAX_VALUE, Integer.MIN_VALUE,
        Integer.MAX_VALUE - 8, Integer.MAX_VALUE - 7}) {
      check.refuses("33: from " + first, OrderTest::busy, x -> x.isEnough(first), ROW);
    }
  }

  private static void isEnoughGreat() {
    RemainderYard yard = Check.yard(GREAT);
    BigInteger product = great();
    BigInteger least = BigInteger.ONE;
    BigInteger twelve = BigInteger.valueOf(12);
    BigInteger low = BigInteger.ZERO;
    BigInteger high = product;
    while (high.subtract(low).compareTo(least) > 0) {
      BigInteger middle = low.add(high).shiftRight(1);
      if (middle.pow(3).multiply(twelve).compareTo(product) < 0) {
        low = middle;
      } else {
        high = middle;
      }
    }
    put(yard, 3, low);
    check.same("33: the greatest that is enough", yard.isEnough(0), true);
    put(yard, 4, high.negate());
    check.same("33: the least that is not", yard.isEnough(0), false);
    put(yard, 4, low.negate());
    check.same("33: below 0, and enough", yard.isEnough(0), true);
    put(yard, 5, product.shiftRight(1));
    check.same("33: half the product", yard.isEnough(3), false);
  }
}
