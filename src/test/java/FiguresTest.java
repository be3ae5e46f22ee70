/** Promises 46 and 47: the checksum and the check of the theorem. */
public final class FiguresTest {
  private static final Check check = new Check("FiguresTest");

  public static void main(String[] args) {
    checksum();
    checksumParts();
    isSound();
    isSoundChangesNothing();
    check.end();
  }

  private static void checksum() {
    RemainderYard yard = new RemainderYard();
    check.same("46: a new object", yard.checksum(), 217L);
    yard.type('a');
    check.same("46: a sign", yard.checksum(), 217L * 31 + 97);
    yard.meet(5, 3);
    check.same("46: a condition ahead of it", yard.checksum(),
        ((217L * 31 + 3) * 31 + 2) * 31 + 97);
    yard.erase();
    yard.forget();
    yard.addDial(10);
    yard.setSpare(1);
    yard.set(0, 7);
    yard.set(11, 4);
    long due = (218L * 31 + 10) * 31 + 7;
    for (int row = 1; row < 11; row++) {
      due = 31 * due;
    }
    check.same("46: rows", yard.checksum(), 31 * due + 4);
  }

  private static void checksumParts() {
    RemainderYard yard = Check.yard(9999, 9998, 7, 5);
    yard.setSpare(3);
    for (int row = 0; row < 12; row++) {
      yard.set(row, 123456789L * row + 5);
    }
    yard.meet(-1, 9997);
    yard.meet(77, 100);
    Check.type(yard, "so ~");
    long sum = 7 * 31 + 3;
    for (int i = 0; i < 4; i++) {
      sum = 31 * sum + yard.dialAt(i);
    }
    for (int row = 0; row < 12; row++) {
      for (int i = 0; i < 4; i++) {
        sum = 31 * sum + yard.wheel(row, i);
      }
    }
    for (int part : new int[] {9997, 9996, 100, 77, 's', 'o', ' ', '~'}) {
      sum = 31 * sum + part;
    }
    check.same("46: it goes round", yard.checksum(), sum);
    check.same("46: twice the same", yard.checksum(), sum);
  }

  private static RemainderYard busy(int seed) {
    RemainderYard yard = Check.yard(9999, 2, 9997, 5, 9991, 49, 9973, 17, 9949, 9941);
    yard.setSpare(2);
    for (int row = 0; row < 12; row++) {
      for (int i = 0; i < 10; i++) {
        yard.turn(row, i, Math.floorMod(seed * 7919 + row * row * 104729 + i * 31337, yard.dialAt(i)));
      }
    }
    yard.setFraction(3, seed, 19);
    yard.set(4, seed);
    yard.copy(5, 4);
    yard.meet(seed, 12);
    yard.meet(seed + seed % 2, 18);
    Check.type(yard, "t" + seed);
    return yard;
  }

  private static void isSound() {
    check.same("47: a new object", new RemainderYard().isSound(), true);
    RemainderYard yard = Check.yard(2);
    check.same("47: one dial", yard.isSound(), true);
    for (int seed = 1; seed < 60; seed++) {
      yard = busy(seed);
      check.same("47: ten dials", yard.isSound(), true);
      yard.dropDial(seed % 10);
      yard.dropDial(seed % 9);
      check.same("47: eight dials", yard.isSound(), true);
    }
    for (int a = 0; a < 4; a++) {
      for (int b = 0; b < 6; b++) {
        yard = new RemainderYard();
        yard.meet(a, 4);
        yard.meet(b, 6);
        check.same("47: conditions, apart or not", yard.isSound(), true);
      }
    }
    for (int number = 0; number < 210; number++) {
      yard = Check.yard(2, 3, 5, 7);
      yard.set(0, number);
      yard.set(1, 209 - number);
      check.same("47: each number", yard.isSound(), true);
    }
  }

  private static void isSoundChangesNothing() {
    for (int seed = 1; seed < 10; seed++) {
      RemainderYard yard = busy(seed);
      yard.isSound();
      check.sameState("47: changes nothing", yard, busy(seed));
    }
  }
}
