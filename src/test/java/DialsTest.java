import java.util.NoSuchElementException;

/** Promises 1 to 8: a new object and its dials. */
public final class DialsTest {
  private static final Class<?> RANGE = IllegalArgumentException.class;
  private static final Class<?> CLASH = UnsupportedOperationException.class;
  private static final Class<?> FULL = IllegalStateException.class;
  private static final Class<?> NONE = NoSuchElementException.class;
  private static final Check check = new Check("DialsTest");

  public static void main(String[] args) {
    newObject();
    addDial();
    addDialAndRows();
    addDialRefuses();
    clash();
    dropDial();
    dropDialAndSpares();
    setSpare();
    dialsAndDialAt();
    product();
    check.end();
  }

  private static RemainderYard tenDials() {
    return Check.yard(2, 3, 5, 7, 11, 13, 17, 19, 23, 29);
  }

  private static RemainderYard busy() {
    RemainderYard yard = Check.yard(3, 5, 7);
    yard.setSpare(1);
    yard.set(0, 23);
    yard.set(1, 99);
    yard.meet(4, 9);
    Check.type(yard, "so");
    return yard;
  }

  private static RemainderYard busyTen() {
    RemainderYard yard = tenDials();
    yard.set(5, 123456);
    return yard;
  }

  private static void newObject() {
    RemainderYard yard = new RemainderYard();
    check.same("1: dials", yard.dials(), 0);
    check.same("1: spare ones", yard.setSpare(0), 0);
    check.same("1: checksum", yard.checksum(), 217L);
    check.same("1: text", yard.erase(), 0);
    check.same("1: conditions", yard.forget(), 0);
    check.same("1: apart", yard.apart(), -1);
    check.same("1: kept calls", Check.outcome(yard, x -> x.undo()), NONE);
    for (int row = 0; row < 12; row++) {
      check.numberIs("1: a new row", yard, row, "0");
    }
    check.same("1: sound", yard.isSound(), true);
    yard.addDial(9);
    for (int row = 0; row < 12; row++) {
      check.rowIs("1: a row with its first dial", yard, row, 0);
    }
  }

  private static void addDial() {
    RemainderYard yard = new RemainderYard();
    check.same("2: the least dial", yard.addDial(2), 0);
    check.same("2: the greatest dial", yard.addDial(9999), 1);
    check.same("2: no prime", yard.addDial(25), 2);
    check.same("2: how many", yard.dials(), 3);
    check.same("2: the last one", yard.dialAt(2), 25);
    RemainderYard ten = new RemainderYard();
    int[] greatest = {9999, 9998, 9997, 9995, 9991, 9989, 9973, 9967, 9949, 9941};
    for (int i = 0; i < 10; i++) {
      check.same("2: dial " + i, ten.addDial(greatest[i]), i);
    }
    check.same("2: ten dials", ten.dials(), 10);
  }

  private static void addDialAndRows() {
    RemainderYard yard = Check.yard(3, 5, 7);
    yard.set(0, 23);
    yard.set(11, 104);
    yard.setSpare(1);
    check.same("2: a dial comes", yard.addDial(11), 3);
    check.rowIs("2: the number stays", yard, 0, 2, 3, 2, 1);
    check.rowIs("2: the number stays", yard, 11, 2, 4, 6, 5);
    check.rowIs("2: the number stays", yard, 1, 0, 0, 0, 0);
    check.numberIs("2: the number stays", yard, 11, "104");
    check.same("2: as many are spare", yard.setSpare(1), 1);
    check.same("2: kept calls are forgotten", Check.outcome(yard, x -> x.undo()), NONE);
    // the dial 7, the spare one before, is a main one now
    check.same("2: below 105 is true now", yard.isTrue(11), true);
    yard.set(2, 105);
    check.same("2: from 105 on is false", yard.isTrue(2), false);
  }

  private static void addDialRefuses() {
    int[] wrong = {1, 0, -1, -7, 10000, Integer.MAX_VALUE, Integer.MIN_VALUE};
    for (int dial : wrong) {
      check.refuses("2: addDial " + dial, DialsTest::busy, x -> x.addDial(dial), RANGE);
      check.refuses("2: ten, addDial " + dial, DialsTest::busyTen, x -> x.addDial(dial), RANGE);
    }
    for (int dial : new int[] {3, 10, 49, 9999, 9996}) {
      check.refuses("2: addDial " + dial, DialsTest::busy, x -> x.addDial(dial), CLASH);
    }
    check.refuses("2: ten, a clash", DialsTest::busyTen, x -> x.addDial(58), CLASH);
    check.refuses("2: ten, no clash", DialsTest::busyTen, x -> x.addDial(31), FULL);
  }

  private static void clash() {
    RemainderYard yard = Check.yard(4, 9, 25, 7);
    check.same("3: the first of several", yard.clash(30), 0);
    check.same("3: 15", yard.clash(15), 1);
    check.same("3: 35", yard.clash(35), 2);
    check.same("3: 9996", yard.clash(9996), 0);
    check.same("3: 7", yard.clash(7), 3);
    check.same("3: none", yard.clash(11), -1);
    check.same("3: the least", yard.clash(2), 0);
    check.same("3: the greatest", yard.clash(9999), 1);
    check.same("3: without dials", new RemainderYard().clash(2), -1);
    for (int dial : new int[] {1, 0, -2, 10000, Integer.MIN_VALUE, Integer.MAX_VALUE}) {
      check.refuses("3: clash " + dial, DialsTest::busy, x -> x.clash(dial), RANGE);
    }
    RemainderYard asked = busy();
    asked.clash(15);
    check.sameState("3: clash changes nothing", asked, busy());
  }

  private static void dropDial() {
    RemainderYard yard = Check.yard(3, 5, 7, 11);
    yard.set(0, 1000);
    yard.set(11, 1154);
    check.same("4: the dial", yard.dropDial(1), 5);
    check.same("4: how many", yard.dials(), 3);
    check.same("4: those behind it are less by 1", yard.dialAt(1), 7);
    check.same("4: those behind it are less by 1", yard.dialAt(2), 11);
    check.rowIs("4: the other wheels stay", yard, 0, 1, 6, 10);
    check.rowIs("4: the other wheels stay", yard, 11, 2, 6, 10);
    check.same("4: kept calls are forgotten", Check.outcome(yard, x -> x.undo()), NONE);
    check.same("4: the last one", yard.dropDial(2), 11);
    check.same("4: the first one", yard.dropDial(0), 3);
    check.same("4: the only one", yard.dropDial(0), 7);
    check.same("4: none is left", yard.dials(), 0);
    check.same("4: checksum of none", yard.checksum(), 217L);
    check.same("4: one comes again", yard.addDial(6), 0);
    check.rowIs("4: and its wheels are at 0", yard, 0, 0);
    check.refuses("4: no dials", RemainderYard::new, x -> x.dropDial(0), NONE);
    for (int index : new int[] {-1, 3, 10, Integer.MAX_VALUE, Integer.MIN_VALUE}) {
      check.refuses("4: dropDial " + index, DialsTest::busy, x -> x.dropDial(index), NONE);
    }
  }

  private static void dropDialAndSpares() {
    RemainderYard yard = Check.yard(2, 3, 5, 7);
    yard.setSpare(3);
    yard.dropDial(0);
    check.same("4: three of three are spare", yard.setSpare(3), 3);
    yard.dropDial(2);
    check.same("4: two are left, both spare", yard.setSpare(2), 2);
    yard.addDial(11);
    check.same("4: as many are told", yard.setSpare(1), 2);
    yard.dropDial(0);
    check.same("4: one of two is spare", yard.setSpare(0), 1);
    yard.set(0, 9);
    check.same("4: none is spare", yard.isTrue(0), true);
  }

  private static void setSpare() {
    RemainderYard yard = Check.yard(2, 3, 5);
    check.same("5: none at first", yard.setSpare(2), 0);
    check.same("5: two were", yard.setSpare(3), 2);
    check.same("5: all were", yard.setSpare(0), 3);
    yard.set(0, 7);
    yard.setSpare(2);
    check.same("5: kept calls stay", yard.undo(), 0);
    check.same("5: and spare dials are not kept", yard.setSpare(2), 2);
    check.same("5: without dials", new RemainderYard().setSpare(0), 0);
    for (int many : new int[] {-1, 4, Integer.MAX_VALUE, Integer.MIN_VALUE}) {
      check.refuses("5: setSpare " + many, DialsTest::busy, x -> x.setSpare(many), RANGE);
    }
    check.refuses("5: no dials", RemainderYard::new, x -> x.setSpare(1), RANGE);
  }

  private static void dialsAndDialAt() {
    RemainderYard yard = tenDials();
    check.same("6: ten", yard.dials(), 10);
    check.same("7: the first", yard.dialAt(0), 2);
    check.same("7: the last", yard.dialAt(9), 29);
    yard.dropDial(4);
    check.same("6: nine", yard.dials(), 9);
    check.same("7: behind the one that went", yard.dialAt(4), 13);
    check.refuses("7: the one that went", () -> {
      RemainderYard nine = tenDials();
      nine.dropDial(4);
      return nine;
    }, x -> x.dialAt(9), NONE);
    for (int index : new int[] {-1, 3, 10, Integer.MAX_VALUE, Integer.MIN_VALUE}) {
      check.refuses("7: dialAt " + index, DialsTest::busy, x -> x.dialAt(index), NONE);
    }
    check.refuses("7: no dials", RemainderYard::new, x -> x.dialAt(0), NONE);
  }

  private static void product() {
    RemainderYard yard = new RemainderYard();
    check.tells("8: without dials", yard, yard.product(), "1");
    yard = Check.yard(3, 5, 7);
    Check.type(yard, "what was there");
    check.tells("8: 105", yard, yard.product(), "105");
    yard.setSpare(2);
    check.tells("8: spare ones too", yard, yard.product(), "105");
    yard = tenDials();
    check.tells("8: of the ten first primes", yard, yard.product(), "6469693230");
    yard = Check.yard(9999, 9998, 9997, 9995, 9991, 9989, 9973, 9967, 9949, 9941);
    check.tells("8: of ten great ones", yard, yard.product(),
        new java.math.BigInteger("9999").multiply(java.math.BigInteger.valueOf(9998L * 9997 * 9995))
            .multiply(java.math.BigInteger.valueOf(9991L * 9989 * 9973 * 9967))
            .multiply(java.math.BigInteger.valueOf(9949L * 9941)).toString());
    yard = Check.yard(16, 625, 9999);
    check.tells("8: zeros inside", yard, yard.product(), "99990000");
  }
}
