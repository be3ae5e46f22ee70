import java.util.ArrayList;
import java.util.Arrays;
import java.util.List;

/**
 * Dials that come and go: behind it each call answers what it does in a yard that had just these dials
 * from the first, since 'the number of each row stays' when one comes, and 'the numbers of those behind
 * it are less by 1' and 'the other ones stay as they are' when one goes.
 */
public final class DialNumbersTest {
  private static final int[] DIALS = {7, 4, 9, 11, 5};
  private static final long[] NUMBERS = {0, 13859, 1, 6929, 6930, 3463, 279, 5041, 12100, 8, 77, 13111};
  private static final Check check = new Check("DialNumbersTest");

  public static void main(String[] args) {
    check.all(DialNumbersTest.class);
  }

  private static int[] without(int[] dials, int gone) {
    int[] left = new int[dials.length - 1];
    for (int i = 0; i < left.length; i++) {
      left[i] = dials[i < gone ? i : i + 1];
    }
    return left;
  }

  private static void setRows(RemainderYard yard, int below) {
    for (int row = 0; row < 12; row++) {
      yard.set(row, NUMBERS[row] % below);
    }
  }

  /** Conditions and a text, which no dial changes. */
  private static RemainderYard rest(RemainderYard yard) {
    yard.meet(4, 6);
    yard.meet(1, 9);
    Check.type(yard, "12");
    return yard;
  }

  private static RemainderYard gone(int index, int spare) {
    RemainderYard yard = rest(Check.yard(DIALS));
    yard.setSpare(spare);
    setRows(yard, 13860);
    yard.dropDial(index);
    return yard;
  }

  /** As it is due behind gone(): each wheel is turned to what it was. */
  private static RemainderYard neverThere(int index, int spare) {
    int[] left = without(DIALS, index);
    RemainderYard yard = rest(new RemainderYard());
    for (int row = 0; row < 12; row++) {
      yard.set(row, 1);
    }
    for (int dial : left) {
      yard.addDial(dial);
    }
    yard.setSpare(Math.min(spare, left.length));
    for (int row = 0; row < 12; row++) {
      for (int i = 0; i < left.length; i++) {
        yard.turn(row, i, (int) (NUMBERS[row] % left[i]));
      }
    }
    return yard;
  }

  private static RemainderYard came(int dial, int spare, int below) {
    RemainderYard yard = rest(Check.yard(DIALS));
    yard.setSpare(spare);
    setRows(yard, below);
    yard.addDial(dial);
    return yard;
  }

  private static RemainderYard thereFromTheFirst(int dial, int spare, int below) {
    RemainderYard yard = rest(Check.yard(DIALS));
    yard.addDial(dial);
    yard.setSpare(spare);
    setRows(yard, below);
    return yard;
  }

  /** Calls with the number of a dial or a set of them, as many dials as there are, and one more. */
  private static List<Check.Call> callsOfDials(int dials) {
    List<Check.Call> calls = new ArrayList<>();
    for (int i = 0; i <= dials; i++) {
      int index = i;
      calls.add(x -> x.dialAt(index));
      calls.add(x -> x.dropDial(index));
      calls.add(x -> x.setSpare(index));
      calls.add(x -> x.open(index));
      for (int row : new int[] {1, 3, 8}) {
        calls.add(x -> x.wheel(row, index));
        calls.add(x -> x.digit(row, index));
        calls.add(x -> x.turn(row, index, 1));
        calls.add(x -> x.turn(row, index, 4));
        calls.add(x -> x.turn(row, index, 8));
        calls.add(x -> x.divideBy(row, 7, index));
      }
    }
    for (int i = 0; i <= 1 << dials; i++) {
      int set = i;
      calls.add(x -> x.told(1, set));
      calls.add(x -> x.told(7, set));
    }
    return calls;
  }

  private static List<Check.Call> callsOfRows() {
    List<Check.Call> calls = new ArrayList<>();
    for (int i = 0; i < 12; i++) {
      int row = i;
      calls.addAll(List.of(x -> x.tell(row), x -> x.tellSigned(row), x -> x.sign(row),
          x -> x.isTrue(row), x -> x.find(row), x -> x.mend(row), x -> x.fraction(row),
          x -> x.inverse(0, row), x -> x.compare(row, 5)));
      calls.addAll(List.of(x -> x.copy(5, row), x -> x.add(5, row, 7), x -> x.subtract(5, 7, row),
          x -> x.multiply(5, row, 7), x -> x.power(5, row, 3), x -> x.power(5, row, -3),
          x -> x.divide(5, row, 2), x -> x.isOver(row, 8, '+'), x -> x.isOver(row, 9, '*')));
    }
    for (int i = 0; i <= 3; i++) {
      int first = i;
      calls.addAll(List.of(x -> x.determinant(4, first), x -> x.isEnough(first),
          x -> x.polynomial(4, first, 6, 10)));
    }
    for (int dial : new int[] {2, 3, 5, 7, 11, 13, 35, 55, 63, 9999}) {
      calls.addAll(List.of(x -> x.clash(dial), x -> x.addDial(dial)));
    }
    calls.addAll(List.of(x -> x.dials(), x -> x.product(), x -> x.set(4, 13859), x -> x.set(4, 1385),
        x -> x.set(4, -1), x -> x.read(4), x -> x.setFraction(4, 5, 13), x -> x.setFraction(4, 5, 22),
        x -> x.checksum(), x -> x.isSound()));
    return calls;
  }

  private static void alike(String what, Check.Maker maker, Check.Maker due, List<Check.Call> calls) {
    for (int i = 0; i < calls.size(); i++) {
      RemainderYard yard = maker.make();
      RemainderYard other = due.make();
      check.same(what + ", call " + i, Check.outcome(yard, calls.get(i)),
          Check.outcome(other, calls.get(i)));
      check.same(what + ", call " + i + ", the text", Check.textOf(yard), Check.textOf(other));
      check.same(what + ", call " + i + ", the rows", Check.wheelsOf(yard), Check.wheelsOf(other));
    }
  }

  private static void numbersOfDialsBehindOneThatGoes() {
    for (int index = 0; index < DIALS.length; index++) {
      int gone = index;
      alike("'are less by 1', without dial " + index, () -> gone(gone, 2), () -> neverThere(gone, 2),
          callsOfDials(4));
    }
  }

  private static void rowsBehindOneThatGoes() {
    for (int index = 0; index < DIALS.length; index++) {
      int gone = index;
      alike("'the other ones stay as they are', without dial " + index, () -> gone(gone, 2),
          () -> neverThere(gone, 2), callsOfRows());
    }
  }

  private static void spareDialsBehindOneThatGoes() {
    for (int spare = 0; spare <= 5; spare++) {
      for (int index = 0; index < DIALS.length; index++) {
        int gone = index;
        int many = spare;
        String what = "'all of them are spare', of " + spare + " without dial " + index;
        Check.Maker maker = () -> gone(gone, many);
        Check.Maker due = () -> neverThere(gone, many);
        List<Check.Call> calls = new ArrayList<>(List.of(x -> x.setSpare(0), x -> x.checksum()));
        for (int row = 0; row < 12; row++) {
          int asked = row;
          calls.addAll(List.of(x -> x.isTrue(asked), x -> x.find(asked), x -> x.mend(asked)));
        }
        alike(what, maker, due, calls);
      }
    }
  }

  private static void numbersOfDialsBehindOneThatComes() {
    alike("a dial comes, 'behind all others'", () -> came(13, 2, 13860),
        () -> thereFromTheFirst(13, 2, 13860), callsOfDials(6));
  }

  private static void rowsBehindOneThatComes() {
    for (int dial : new int[] {13, 9997}) {
      alike("'the number of each row stays', a dial " + dial, () -> came(dial, 2, 13860),
          () -> thereFromTheFirst(dial, 2, 13860), callsOfRows());
    }
  }

  private static void spareDialsBehindOneThatComes() {
    for (int spare = 0; spare <= 5; spare++) {
      for (int below : new int[] {13860, 30, 8}) {
        int many = spare;
        List<Check.Call> calls = new ArrayList<>(List.of(x -> x.setSpare(0), x -> x.checksum()));
        for (int row = 0; row < 12; row++) {
          int asked = row;
          calls.addAll(List.of(x -> x.isTrue(asked), x -> x.find(asked), x -> x.mend(asked)));
        }
        alike("'the first of these a main one then', of " + spare, () -> came(13, many, below),
            () -> thereFromTheFirst(13, many, below), calls);
      }
    }
  }

  /** In words: the third of five goes, so that the fourth is the third and the fifth the fourth. */
  private static void setsBehindOneThatGoes() {
    RemainderYard yard = Check.yard(7, 4, 9, 11, 5);
    yard.set(2, 13859);
    yard.dropDial(2);
    check.tells("'in sets': the third bit is 11", yard, yard.told(2, 4), "10");
    check.tells("'in sets': the fourth bit is 5", yard, yard.told(2, 8), "4");
    check.tells("'in sets': the first two are as they were", yard, yard.told(2, 3), "27");
    check.same("'in sets': no fifth", Check.outcome(yard, x -> x.told(2, 16)), Yards.RANGE);
    check.same("'in dials'", yard.dialAt(2) + " " + yard.dialAt(3), "11 5");
    check.same("'in wheels'", Yards.row(yard, 2), "6 3 10 4");
    check.same("'in wheels', turned", yard.turn(2, 2, 0), 10);
    check.same("'in digits'", yard.divideBy(3, 2, 2), 0);
    check.same("clash tells the new number", yard.clash(55), 2);
    check.same("a dial that comes is numbered behind them", yard.addDial(9), 4);
  }

  /** Several go, one after the other, in each order of three. */
  private static void severalGo() {
    int[][] orders = {{0, 0, 0}, {4, 3, 2}, {0, 3, 1}, {2, 2, 2}, {1, 0, 2}};
    for (int[] order : orders) {
      RemainderYard yard = Check.yard(DIALS);
      yard.setSpare(1);
      setRows(yard, 13860);
      int[] left = DIALS;
      for (int index : order) {
        check.same("dropDial 'returns the dial'", yard.dropDial(index), left[index]);
        left = without(left, index);
      }
      for (int row = 0; row < 12; row++) {
        for (int i = 0; i < 2; i++) {
          check.same("'stay as they are', " + Arrays.toString(order) + ", row " + row + ", wheel " + i,
              yard.wheel(row, i), (int) (NUMBERS[row] % left[i]));
        }
      }
      check.same("as many are told, " + Arrays.toString(order), yard.setSpare(0), 1);
    }
  }
}
