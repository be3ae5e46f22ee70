/** Promises 39 and 40: shares. */
public final class SharesTest {
  private static final Class<?> ROW = IndexOutOfBoundsException.class;
  private static final Class<?> WRONG = IllegalArgumentException.class;
  private static final int[] NO_ROWS = {-1, 12, 13, Integer.MAX_VALUE, Integer.MIN_VALUE};
  private static final Check check = new Check("SharesTest");

  public static void main(String[] args) {
    told();
    toldGreat();
    toldRefuses();
    open();
    openRefuses();
    check.end();
  }

  private static RemainderYard busy() {
    RemainderYard yard = Check.yard(3, 5, 7);
    yard.set(0, 23);
    Check.type(yard, "t");
    return yard;
  }

  private static void told() {
    String[] due = {"0", "2", "3", "8", "2", "2", "23", "23"};
    RemainderYard yard = busy();
    for (int set = 0; set < 8; set++) {
      check.tells("39: set " + set, yard, yard.told(0, set), due[set]);
    }
    yard.setSpare(3);
    check.tells("39: spare ones too", yard, yard.told(0, 7), "23");
    RemainderYard bare = new RemainderYard();
    check.tells("39: without dials", bare, bare.told(11, 0), "0");
  }

  private static void toldGreat() {
    RemainderYard yard = Check.yard(9999, 9998, 9997, 9995, 9991, 9989, 9973, 9967, 9949, 9941);
    String number = "1234567890123456789";
    Check.type(yard, number);
    yard.read(5);
    check.tells("39: five of ten", yard, yard.told(5, 0b1010101010), number);
    check.tells("39: all of ten", yard, yard.told(5, 1023), number);
    check.tells("39: the last one", yard, yard.told(5, 512),
        Long.toString(1234567890123456789L % 9941));
  }

  private static void toldRefuses() {
    for (int set : new int[] {-1, 8, 9, 15, 1024, Integer.MAX_VALUE, Integer.MIN_VALUE}) {
      check.refuses("39: set " + set, SharesTest::busy, x -> x.told(0, set), WRONG);
      check.refuses("39: no row, set " + set, SharesTest::busy, x -> x.told(12, set), ROW);
    }
    check.refuses("39: set 1 without dials", RemainderYard::new, x -> x.told(0, 1), WRONG);
    check.refuses("39: set 1024 of ten", () -> Check.yard(2, 3, 5, 7, 11, 13, 17, 19, 23, 29),
        x -> x.told(0, 1024), WRONG);
    for (int row : NO_ROWS) {
      check.refuses("39: told " + row, SharesTest::busy, x -> x.told(row, 1), ROW);
    }
  }

  private static void open() {
    RemainderYard yard = Check.yard(13, 11, 17, 19);
    check.tells("40: 11", yard, yard.open(1), "11");
    // 143 / 19, 2431 / 323, 46189 / 4199
    check.tells("40: two", yard, yard.open(2), "7");
    check.tells("40: three", yard, yard.open(3), "7");
    check.tells("40: four", yard, yard.open(4), "11");
    check.same("40: the dials stay in their order", yard.dialAt(0), 13);
    yard.dropDial(1);
    check.tells("40: after one has gone", yard, yard.open(1), "13");
    RemainderYard small = Check.yard(2, 3, 9973);
    check.tells("40: cut to 0", small, small.open(2), "0");
    check.tells("40: all", small, small.open(3), "2");
    RemainderYard great = Check.yard(9941, 9999, 9949, 9998, 9967, 9997, 9973, 9995, 9989, 9991);
    // 9941 * 9949 * 9967 * 9973 * 9989 by 9999 * 9998 * 9997 * 9995
    java.math.BigInteger above = java.math.BigInteger.valueOf(9941L * 9949 * 9967 * 9973)
        .multiply(java.math.BigInteger.valueOf(9989));
    java.math.BigInteger below = java.math.BigInteger.valueOf(9999L * 9998 * 9997 * 9995);
    check.tells("40: five of ten", great, great.open(5), above.divide(below).toString());
    check.tells("40: ten of ten", great, great.open(10), "9941");
  }

  private static void openRefuses() {
    for (int k : new int[] {0, 4, -1, Integer.MAX_VALUE, Integer.MIN_VALUE}) {
      check.refuses("40: open " + k, SharesTest::busy, x -> x.open(k), WRONG);
    }
    check.refuses("40: without dials", RemainderYard::new, x -> x.open(1), WRONG);
    check.refuses("40: without dials", RemainderYard::new, x -> x.open(0), WRONG);
  }
}
