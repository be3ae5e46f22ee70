import java.util.Arrays;

/**
 * Promises 34 to 36: 'below the product of the main dials', of those that are main ones at that call,
 * whatever they were when the row became what it is, or at a call ahead of it.
 */
public final class MainDialsTest {
  private static final int[] DIALS = {3, 4, 5, 7};
  private static final Check check = new Check("MainDialsTest");

  public static void main(String[] args) {
    check.all(MainDialsTest.class);
  }

  private static int product(int[] dials, int many) {
    return Yards.product(Arrays.copyOf(dials, many)).intValue();
  }

  /** isTrue(), find() and mend() of row 6, which is this number, and no other answer. */
  private static void asMain(String what, RemainderYard yard, int number, int many, int... dials) {
    int main = product(dials, many);
    int wheel = MendEdgesTest.found(number, main, dials);
    String of = what + ", " + number + " by " + many + " main ones";
    check.same(of + ", isTrue", yard.isTrue(6), number < main);
    check.same(of + ", find", yard.find(6), wheel);
    int least = wheel < 0 ? number : MendEdgesTest.least(number, wheel, main, dials);
    check.same(of + ", mend", Check.outcome(yard, x -> x.mend(6)),
        wheel < 0 ? Yards.NONE : (Object) (least % dials[wheel]));
    for (int i = 0; i < dials.length; i++) {
      check.same(of + ", the row, wheel " + i, yard.wheel(6, i), least % dials[i]);
    }
    if (wheel >= 0) {
      check.same(of + ", it is true then", yard.isTrue(6), true);
      check.same(of + ", undo()", yard.undo(), 6);
    }
  }

  private static void toldBehindTheRow() {
    for (int before = 0; before <= 4; before++) {
      for (int number = 0; number < 420; number += 3) {
        RemainderYard yard = Check.yard(DIALS);
        yard.setSpare(before);
        yard.set(6, number);
        for (int spare : new int[] {2, 0, 4, 1, 3}) {
          yard.setSpare(spare);
          asMain("told behind the row", yard, number, 4 - spare, DIALS);
        }
      }
    }
  }

  private static void toldBehindACallOfThem() {
    for (int number = 0; number < 420; number++) {
      RemainderYard yard = Check.yard(DIALS);
      yard.set(6, number);
      yard.setSpare(1);
      yard.isTrue(6);
      yard.find(6);
      yard.setSpare(2);
      asMain("told behind isTrue() and find()", yard, number, 2, DIALS);
      yard.setSpare(1);
      asMain("told back", yard, number, 3, DIALS);
    }
  }

  private static void refusedSpareDialsStay() {
    for (int number = 0; number < 420; number++) {
      RemainderYard yard = Check.yard(DIALS);
      yard.setSpare(2);
      yard.set(6, number);
      check.same("five of four", Check.outcome(yard, x -> x.setSpare(5)), Yards.RANGE);
      check.same("-1 of four", Check.outcome(yard, x -> x.setSpare(-1)), Yards.RANGE);
      asMain("behind what was refused", yard, number, 2, DIALS);
    }
  }

  private static void undoLeavesThem() {
    for (int number = 0; number < 420; number++) {
      RemainderYard yard = Check.yard(DIALS);
      yard.setSpare(1);
      yard.set(6, number);
      yard.set(5, 3);
      yard.setSpare(2);
      yard.undo();
      asMain("behind undo(), 'spare dials are not kept'", yard, number, 2, DIALS);
    }
  }

  private static void oneComesAndTheFirstSpareIsMain() {
    int[] with = {3, 4, 5, 7, 11};
    for (int spare = 1; spare <= 4; spare++) {
      for (int number = 0; number < 420; number += 2) {
        RemainderYard yard = Check.yard(DIALS);
        yard.setSpare(spare);
        yard.set(6, number);
        yard.isTrue(6);
        yard.addDial(11);
        asMain("'the first of these a main one then', " + spare + " spare", yard, number, 5 - spare, with);
      }
    }
  }

  private static void oneComesWhereNoneIsSpare() {
    int[] with = {3, 4, 5, 7, 11};
    for (int number = 0; number < 420; number++) {
      RemainderYard yard = Check.yard(DIALS);
      yard.set(6, number);
      yard.addDial(11);
      yard.set(6, 4619 - number);
      asMain("it is a main one", yard, 4619 - number, 5, with);
    }
  }

  private static void oneGoes() {
    for (int spare = 0; spare <= 4; spare++) {
      for (int gone = 0; gone < 4; gone++) {
        int[] left = new int[3];
        for (int i = 0; i < 3; i++) {
          left[i] = DIALS[i < gone ? i : i + 1];
        }
        int main = 3 - Math.min(spare, 3);
        for (int number = 0; number < 420; number += 3) {
          RemainderYard yard = Check.yard(DIALS);
          yard.setSpare(spare);
          yard.set(6, number);
          yard.isTrue(6);
          yard.dropDial(gone);
          asMain("one goes, " + spare + " spare, dial " + gone, yard, number % product(left, 3), main,
              left);
        }
      }
    }
  }

  private static void otherRowsAndConditionsDoNotCount() {
    for (int number = 0; number < 420; number++) {
      RemainderYard yard = Check.yard(DIALS);
      yard.setSpare(2);
      yard.set(6, number);
      for (int row = 0; row < 12; row++) {
        yard.set(row, row == 6 ? number : 419 - row);
      }
      yard.meet(1, 12);
      yard.meet(0, 12);
      asMain("with other rows and conditions", yard, number, 2, DIALS);
    }
  }
}
