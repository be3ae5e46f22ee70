import java.lang.management.ManagementFactory;

/** All calls of one run live in one room: no call makes anything that it does not throw. */
public final class RoomTest {
  // 31 calls make a yard and 20 rounds of 24 follow, so that none has more than 512
  private static final int YARDS = 26;
  private static final int ROUNDS = 20;
  private static final long MOST_BYTES = 20000;
  private static final com.sun.management.ThreadMXBean BEAN =
      (com.sun.management.ThreadMXBean) ManagementFactory.getThreadMXBean();
  private static final Check check = new Check("RoomTest");

  public static void main(String[] args) {
    roundsOfOne();
    long made = 0;
    for (int i = 0; i < YARDS; i++) {
      made += roundsOfOne();
    }
    check.same(YARDS * ROUNDS + " rounds make " + made + " bytes, few", made < MOST_BYTES, true);
    check.end();
  }

  /** Answers how many bytes the calls make, without those of the yard itself. */
  private static long roundsOfOne() {
    RemainderYard yard = Check.yard(9941, 9949, 9967, 9973, 9989, 9991, 9995, 9997, 9998, 9999);
    yard.setSpare(2);
    for (int row = 0; row < 12; row++) {
      yard.set(row, Long.MAX_VALUE / (row + 1));
    }
    for (int i = 0; i < 8; i++) {
      yard.meet(i, 9999 - i);
    }
    long before = bytes();
    for (int i = 0; i < ROUNDS; i++) {
      round(yard);
    }
    return bytes() - before;
  }

  private static long bytes() {
    return BEAN.getThreadAllocatedBytes(Thread.currentThread().getId());
  }

  private static void round(RemainderYard yard) {
    yard.isSound();
    yard.set(0, Long.MAX_VALUE);
    yard.turn(0, 3, 1);
    yard.find(0);
    yard.mend(0);
    yard.undo();
    yard.product();
    yard.read(1);
    yard.tellSigned(2);
    yard.setFraction(3, 5, 1);
    yard.fraction(3);
    yard.determinant(4, 0);
    yard.polynomial(5, 0, 6, 1);
    yard.divideBy(6, 2, 3);
    yard.power(7, 2, Integer.MAX_VALUE);
    yard.isEnough(0);
    yard.isOver(1, 2, '*');
    yard.told(1, 1023);
    yard.open(5);
    yard.period();
    yard.apart();
    yard.checksum();
    yard.dropDial(9);
    yard.addDial(9999);
  }
}
