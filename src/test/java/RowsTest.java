import java.util.NoSuchElementException;

/** Promises 12 to 19: rows, and what is kept of them. */
public final class RowsTest {
  private static final Class<?> ROW = IndexOutOfBoundsException.class;
  private static final Class<?> NONE = NoSuchElementException.class;
  private static final Class<?> WRONG = IllegalArgumentException.class;
  private static final Class<?> NO_NUMBER = NumberFormatException.class;
  private static final int[] NO_ROWS = {-1, 12, 13, Integer.MAX_VALUE, Integer.MIN_VALUE};
  private static final Check check = new Check("RowsTest");

  public static void main(String[] args) {
    set();
    setGreat();
    read();
    readGreat();
    readRefuses();
    readAfterRefusal();
    tell();
    tellSigned();
    wheel();
    turn();
    copy();
    undo();
    keeping();
    check.end();
  }

  private static RemainderYard busy() {
    RemainderYard yard = Check.yard(3, 5, 7);
    yard.set(0, 23);
    yard.set(1, -1);
    Check.type(yard, "x1");
    return yard;
  }

  private static void set() {
    RemainderYard yard = Check.yard(3, 5, 7);
    check.same("12: 23", yard.set(0, 23), true);
    check.rowIs("12: 23", yard, 0, 2, 3, 2);
    check.same("12: 0", yard.set(0, 0), true);
    check.rowIs("12: 0", yard, 0, 0, 0, 0);
    check.same("12: the greatest", yard.set(11, 104), true);
    check.rowIs("12: the greatest", yard, 11, 2, 4, 6);
    check.same("12: the product", yard.set(11, 105), false);
    check.rowIs("12: the product", yard, 11, 0, 0, 0);
    check.same("12: -1", yard.set(1, -1), false);
    check.rowIs("12: -1", yard, 1, 2, 4, 6);
    check.same("12: -105", yard.set(1, -105), false);
    check.rowIs("12: -105", yard, 1, 0, 0, 0);
    check.same("12: other rows stay", yard.wheel(2, 0), 0);
    RemainderYard bare = new RemainderYard();
    check.same("12: 0 without dials", bare.set(0, 0), true);
    check.same("12: 1 without dials", bare.set(0, 1), false);
    check.same("12: -1 without dials", bare.set(0, -1), false);
    for (int row : NO_ROWS) {
      check.refuses("12: set " + row, RowsTest::busy, x -> x.set(row, 4), ROW);
    }
    check.keeps("12: set", RowsTest::busy, x -> x.set(0, 7), 0);
    check.keeps("12: set to the same", RowsTest::busy, x -> x.set(0, 23), 0);
  }

  private static void setGreat() {
    RemainderYard yard = Check.yard(9999, 9998, 9997);
    check.same("12: Long.MAX_VALUE", yard.set(0, Long.MAX_VALUE), false);
    check.rowIs("12: Long.MAX_VALUE", yard, 0, (int) (Long.MAX_VALUE % 9999),
        (int) (Long.MAX_VALUE % 9998), (int) (Long.MAX_VALUE % 9997));
    check.same("12: Long.MIN_VALUE", yard.set(1, Long.MIN_VALUE), false);
    check.rowIs("12: Long.MIN_VALUE", yard, 1, Math.floorMod(Long.MIN_VALUE, 9999),
        Math.floorMod(Long.MIN_VALUE, 9998), Math.floorMod(Long.MIN_VALUE, 9997));
    long product = 9999L * 9998 * 9997;
    check.same("12: below 10 to the 12th", yard.set(0, product - 1), true);
    check.same("12: it itself", yard.set(0, product), false);
    yard.addDial(9995);
    yard.addDial(9991);
    check.same("12: with a product above all longs", yard.set(0, Long.MAX_VALUE), true);
    check.numberIs("12: with a product above all longs", yard, 0, "9223372036854775807");
    check.same("12: but none below 0", yard.set(0, Long.MIN_VALUE), false);
  }

  private static void read() {
    String[] texts = {"23", "+23", "0", "-0", "+0", "00023", "104", "-1", "-82", "105", "0105"};
    boolean[] same = {true, true, true, true, true, true, true, false, false, false, false};
    int[] due = {23, 23, 0, 0, 0, 23, 104, 104, 23, 0, 0};
    for (int i = 0; i < texts.length; i++) {
      RemainderYard yard = Check.yard(3, 5, 7);
      yard.set(2, 50);
      Check.type(yard, texts[i]);
      check.same("13: " + texts[i], yard.read(2), same[i]);
      check.rowIs("13: " + texts[i], yard, 2, due[i] % 3, due[i] % 5, due[i] % 7);
      check.same("13: " + texts[i] + " is taken away", yard.erase(), 0);
    }
    RemainderYard bare = new RemainderYard();
    Check.type(bare, "-000");
    check.same("13: 0 without dials", bare.read(0), true);
    Check.type(bare, "7");
    check.same("13: 7 without dials", bare.read(0), false);
    check.keeps("13: read", () -> {
      RemainderYard yard = busy();
      yard.erase();
      Check.type(yard, "5");
      return yard;
    }, x -> x.read(1), 1);
  }

  private static void readGreat() {
    RemainderYard yard = Check.yard(9999, 9998, 9997, 9995, 9991, 9989, 9973, 9967, 9949, 9941);
    yard.product();
    String product = Check.textOf(yard);
    check.same("13: the product", yard.read(0), false);
    check.numberIs("13: the product", yard, 0, "0");
    String most = new java.math.BigInteger(product).subtract(java.math.BigInteger.ONE).toString();
    Check.type(yard, most);
    check.same("13: the greatest number", yard.read(0), true);
    check.numberIs("13: the greatest number", yard, 0, most);
    String nines = "9".repeat(80);
    Check.type(yard, nines);
    check.same("13: 80 nines", yard.read(1), false);
    check.same("13: 80 nines", yard.wheel(1, 4), new java.math.BigInteger(nines)
        .mod(java.math.BigInteger.valueOf(9991)).intValue());
    Check.type(yard, "-" + "9".repeat(79));
    check.same("13: - and 79 nines", yard.read(1), false);
    check.same("13: - and 79 nines", yard.wheel(1, 9), new java.math.BigInteger("9".repeat(79))
        .negate().mod(java.math.BigInteger.valueOf(9941)).intValue());
    Check.type(yard, "0".repeat(75) + "12345");
    check.same("13: zeros ahead", yard.read(1), true);
    check.numberIs("13: zeros ahead", yard, 1, "12345");
  }

  private static void readRefuses() {
    String[] wrong = {"", "+", "-", " ", "x", "--1", "+-1", "-+", " 1", "1 ", "1 2", "- 1", "1.0",
      "12a", "a12", "1e5", "1/2", "1-", "1+", "1-2", "12+34", "/", ":", "0x1", "~", "9".repeat(79) + "-",
      "-" + "9".repeat(78) + " "};
    for (String text : wrong) {
      Check.Maker bare = () -> typed(new RemainderYard(), text);
      Check.Maker maker = () -> typed(crowded(), text);
      check.refuses("13: read '" + text + "', a new yard", bare, x -> x.read(0), NO_NUMBER);
      for (int row = 0; row < 12; row++) {
        int asked = row;
        check.refuses("13: read '" + text + "', " + row, maker, x -> x.read(asked), NO_NUMBER);
      }
      for (int row : NO_ROWS) {
        check.refuses("13: no row " + row + ", '" + text + "'", maker, x -> x.read(row), ROW);
      }
    }
    for (int row : NO_ROWS) {
      check.refuses("13: read " + row, () -> typed(busy(), "1"), x -> x.read(row), ROW);
    }
  }

  private static RemainderYard typed(RemainderYard yard, String text) {
    yard.erase();
    Check.type(yard, text);
    return yard;
  }

  /** A yard that has something of all that there is: rows kept, spare dials, conditions. */
  private static RemainderYard crowded() {
    RemainderYard yard = Check.yard(3, 5, 7, 11, 13);
    yard.setSpare(2);
    for (int row = 0; row < 12; row++) {
      yard.set(row, 1000 - 77L * row);
    }
    yard.turn(4, 3, 9);
    yard.meet(5, 12);
    yard.meet(-1, 9);
    return yard;
  }

  /** A text that was refused is still there, so that a sign behind it can make a number of it. */
  private static void readAfterRefusal() {
    String[] begun = {"", "+", "-", "0x"};
    Object[] due = {true, true, false, NO_NUMBER};
    int[] places = {2, 2, 1, 0};
    for (int i = 0; i < begun.length; i++) {
      String what = "13: '" + begun[i] + "' and a 5";
      RemainderYard yard = typed(Check.yard(3), begun[i]);
      for (int many = 0; many < 20; many++) {
        check.same(what + ", refused", Check.outcome(yard, x -> x.read(1)), NO_NUMBER);
      }
      check.textIs(what + ", refused", yard, begun[i]);
      check.same(what + ", none is kept", Check.outcome(yard, x -> x.undo()), NONE);
      yard.type('5');
      // 5 is not below 3, so that a second dial must make room for it
      yard.addDial(7);
      check.same(what, Check.outcome(yard, x -> x.read(1)), due[i]);
      check.same(what + ", its wheel", yard.wheel(1, 0), places[i]);
    }
    RemainderYard yard = typed(Check.yard(3, 5, 7), "12x");
    yard.set(0, 23);
    yard.set(0, 24);
    check.same("13: 12x", Check.outcome(yard, x -> x.read(0)), NO_NUMBER);
    check.numberIs("13: 12x changes no row", yard, 0, "24");
    check.same("13: 12x is not kept", yard.undo(), 0);
    check.numberIs("13: 12x is not kept", yard, 0, "23");
    check.same("13: 12x stays", yard.erase(), 3);
    check.same("13: it is empty then", Check.outcome(yard, x -> x.read(0)), NO_NUMBER);
  }

  private static void tell() {
    RemainderYard yard = busy();
    check.tells("14: 23", yard, yard.tell(0), "23");
    check.tells("14: 104", yard, yard.tell(1), "104");
    check.tells("14: 0", yard, yard.tell(2), "0");
    yard.setSpare(3);
    check.tells("14: spare dials count", yard, yard.tell(0), "23");
    RemainderYard bare = new RemainderYard();
    check.tells("14: without dials", bare, bare.tell(11), "0");
    RemainderYard great = Check.yard(9999, 9998, 9997, 9995, 9991);
    for (String number : new String[] {"1000000000", "999999999", "1000000000000000000",
        "1000000001", "90000000000000000007", "100000000000000000"}) {
      Check.type(great, number);
      great.read(3);
      check.tells("14: " + number, great, great.tell(3), number);
      great.erase();
    }
    for (int row : NO_ROWS) {
      check.refuses("14: tell " + row, RowsTest::busy, x -> x.tell(row), ROW);
    }
  }

  private static void tellSigned() {
    RemainderYard yard = busy();
    int[] numbers = {0, 1, 52, 53, 104, 103};
    String[] due = {"0", "1", "52", "-52", "-1", "-2"};
    for (int i = 0; i < numbers.length; i++) {
      yard.set(5, numbers[i]);
      check.tells("15: " + numbers[i], yard, yard.tellSigned(5), due[i]);
    }
    RemainderYard even = Check.yard(2, 5);
    even.set(0, 5);
    check.tells("15: twice it is the product", even, even.tellSigned(0), "-5");
    even.set(0, 4);
    check.tells("15: twice it is below", even, even.tellSigned(0), "4");
    RemainderYard two = Check.yard(2);
    two.set(0, 1);
    check.tells("15: 1 of 2", two, two.tellSigned(0), "-1");
    RemainderYard bare = new RemainderYard();
    check.tells("15: without dials", bare, bare.tellSigned(0), "0");
    for (int row : NO_ROWS) {
      check.refuses("15: tellSigned " + row, RowsTest::busy, x -> x.tellSigned(row), ROW);
    }
  }

  private static void wheel() {
    RemainderYard yard = busy();
    check.same("16: the first", yard.wheel(0, 0), 2);
    check.same("16: the last", yard.wheel(1, 2), 6);
    check.same("16: the last row", yard.wheel(11, 2), 0);
    for (int row : NO_ROWS) {
      check.refuses("16: row " + row, RowsTest::busy, x -> x.wheel(row, 0), ROW);
      check.refuses("16: row " + row + " and no dial", RowsTest::busy, x -> x.wheel(row, 3), ROW);
    }
    for (int index : new int[] {-1, 3, 10, Integer.MAX_VALUE, Integer.MIN_VALUE}) {
      check.refuses("16: dial " + index, RowsTest::busy, x -> x.wheel(0, index), NONE);
    }
  }

  private static void turn() {
    RemainderYard yard = busy();
    check.same("17: where it was", yard.turn(0, 1, 4), 3);
    check.rowIs("17: turned", yard, 0, 2, 4, 2);
    check.same("17: to the same", yard.turn(0, 1, 4), 4);
    check.same("17: to the last place", yard.turn(0, 2, 6), 2);
    check.same("17: to 0", yard.turn(0, 2, 0), 6);
    check.rowIs("17: turned", yard, 0, 2, 4, 0);
    for (int row : NO_ROWS) {
      check.refuses("17: row " + row, RowsTest::busy, x -> x.turn(row, 3, 9), ROW);
    }
    for (int index : new int[] {-1, 3, 10, Integer.MAX_VALUE, Integer.MIN_VALUE}) {
      check.refuses("17: dial " + index, RowsTest::busy, x -> x.turn(0, index, -1), NONE);
    }
    for (int place : new int[] {-1, 5, 6, Integer.MAX_VALUE, Integer.MIN_VALUE}) {
      check.refuses("17: place " + place, RowsTest::busy, x -> x.turn(0, 1, place), WRONG);
    }
    check.keeps("17: turn", RowsTest::busy, x -> x.turn(0, 1, 2), 0);
    check.keeps("17: turn to the same", RowsTest::busy, x -> x.turn(0, 1, 3), 0);
  }

  private static void copy() {
    RemainderYard yard = busy();
    yard.set(2, 35);
    check.same("18: how many are at 0", yard.copy(3, 2), 2);
    check.rowIs("18: copied", yard, 3, 2, 0, 0);
    check.rowIs("18: the other one stays", yard, 2, 2, 0, 0);
    yard.turn(2, 0, 1);
    check.rowIs("18: it is of its own", yard, 3, 2, 0, 0);
    check.same("18: the same", yard.copy(0, 0), 0);
    check.rowIs("18: the same", yard, 0, 2, 3, 2);
    check.same("18: all at 0", yard.copy(0, 9), 3);
    check.same("18: without dials", new RemainderYard().copy(0, 1), 0);
    for (int row : NO_ROWS) {
      check.refuses("18: copy to " + row, RowsTest::busy, x -> x.copy(row, 0), ROW);
      check.refuses("18: copy from " + row, RowsTest::busy, x -> x.copy(0, row), ROW);
    }
    check.keeps("18: copy", RowsTest::busy, x -> x.copy(0, 1), 0);
    check.keeps("18: copy of the same", RowsTest::busy, x -> x.copy(1, 1), 1);
  }

  private static void undo() {
    RemainderYard yard = Check.yard(3, 5, 7);
    check.same("19: no call", Check.outcome(yard, x -> x.undo()), NONE);
    yard.set(4, 10);
    yard.set(6, 20);
    yard.set(4, 30);
    Check.type(yard, "t");
    yard.meet(1, 2);
    yard.setSpare(2);
    check.same("19: the latest", yard.undo(), 4);
    check.rowIs("19: what it was", yard, 4, 1, 0, 3);
    check.same("19: the one ahead of it", yard.undo(), 6);
    check.rowIs("19: what it was", yard, 6, 0, 0, 0);
    check.same("19: the first", yard.undo(), 4);
    check.rowIs("19: what it was", yard, 4, 0, 0, 0);
    check.same("19: no more", Check.outcome(yard, x -> x.undo()), NONE);
    check.textIs("19: the text is not kept", yard, "t");
    check.same("19: conditions are not kept", yard.forget(), 1);
    check.same("19: spare dials are not kept", yard.setSpare(0), 2);
    RemainderYard bare = new RemainderYard();
    bare.set(7, 3);
    check.same("19: without dials", bare.undo(), 7);
  }

  private static void keeping() {
    RemainderYard yard = Check.yard(97);
    for (int i = 1; i <= 20; i++) {
      yard.set(i % 12, i);
    }
    for (int i = 20; i > 8; i--) {
      check.same("19: twelve are kept", Check.outcome(yard, x -> x.undo()), i % 12);
      check.same("19: what it was", yard.wheel(i % 12, 0), Math.max(i - 12, 0));
    }
    check.same("19: the 13th is forgotten", Check.outcome(yard, x -> x.undo()), NONE);
    yard.set(0, 1);
    yard.undo();
    yard.set(1, 50);
    check.same("19: undo() is not kept", yard.undo(), 1);
    check.same("19: undo() is not kept", Check.outcome(yard, x -> x.undo()), NONE);
    yard.set(0, 60);
    yard.addDial(2);
    check.same("19: a dial has come", Check.outcome(yard, x -> x.undo()), NONE);
    yard.set(0, 60);
    yard.dropDial(1);
    check.same("19: a dial has gone", Check.outcome(yard, x -> x.undo()), NONE);
    yard.set(0, 61);
    Check.outcome(yard, x -> x.addDial(97));
    Check.outcome(yard, x -> x.dropDial(1));
    yard.tell(0);
    yard.find(0);
    yard.isSound();
    check.same("19: what changes no row keeps and forgets none", yard.undo(), 0);
    check.same("19: nor twice", Check.outcome(yard, x -> x.undo()), NONE);
  }
}
