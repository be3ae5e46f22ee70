import java.util.NoSuchElementException;

/** Promises 34 to 36: false wheels. */
public final class FalseWheelsTest {
  private static final Class<?> ROW = IndexOutOfBoundsException.class;
  private static final Class<?> NONE = NoSuchElementException.class;
  private static final int[] NO_ROWS = {-1, 12, 13, Integer.MAX_VALUE, Integer.MIN_VALUE};
  private static final Check check = new Check("FalseWheelsTest");

  public static void main(String[] args) {
    isTrue();
    find();
    findEach();
    mend();
    mendSeveralPlaces();
    mendGreat();
    mendRefuses();
    check.end();
  }

  /** Main dials 2, 3 and spare ones 5, 7; row 0 is 4 with its second wheel turned. */
  private static RemainderYard turned() {
    RemainderYard yard = Check.yard(2, 3, 5, 7);
    yard.setSpare(2);
    yard.set(0, 4);
    yard.turn(0, 1, 2);
    yard.set(1, 5);
    yard.set(2, 100);
    Check.type(yard, "t");
    return yard;
  }

  private static void isTrue() {
    RemainderYard yard = Check.yard(2, 3, 5, 7);
    yard.set(0, 209);
    check.same("34: none is spare", yard.isTrue(0), true);
    int[] limits = {210, 30, 6, 2, 1};
    for (int spare = 1; spare <= 4; spare++) {
      yard.setSpare(spare);
      yard.set(0, limits[spare]);
      check.same("34: " + spare + " spare, " + limits[spare], yard.isTrue(0), false);
      yard.set(0, limits[spare] - 1);
      check.same("34: " + spare + " spare, less by 1", yard.isTrue(0), true);
    }
    check.same("34: without dials", new RemainderYard().isTrue(0), true);
    for (int row : NO_ROWS) {
      check.refuses("34: isTrue " + row, FalseWheelsTest::turned, x -> x.isTrue(row), ROW);
    }
  }

  private static void find() {
    RemainderYard yard = turned();
    check.same("35: the turned one", yard.find(0), 1);
    check.same("35: true", yard.find(1), -1);
    // 100 is 0 1 0 2: none of its wheels makes it one of 0 to 5
    check.same("35: none", yard.find(2), -2);
    yard.setSpare(1);
    // 100 is 100 by 105, 30 by 70, 16 by 42, 10 by 30: two of these are below 30
    check.same("35: several", yard.find(2), -3);
    yard.set(3, 41);
    // 41 by 105, 41 by 70, 41 by 42, 11 by 30
    check.same("35: the last one", yard.find(3), 3);
    yard.setSpare(0);
    check.same("35: none is spare", yard.find(2), -1);
    yard.setSpare(4);
    yard.set(3, 42);
    // of 0 2 0 0, the third wheel alone is not at 0
    check.same("35: all are spare", yard.find(3), 2);
    yard.set(3, 7);
    check.same("35: all are spare, none", yard.find(3), -2);
    RemainderYard one = Check.yard(9);
    one.setSpare(1);
    one.set(0, 8);
    check.same("35: the only one", one.find(0), 0);
    check.same("35: without dials", new RemainderYard().find(0), -1);
    for (int row : NO_ROWS) {
      check.refuses("35: find " + row, FalseWheelsTest::turned, x -> x.find(row), ROW);
    }
    RemainderYard asked = turned();
    asked.find(0);
    check.sameState("35: find changes nothing", asked, turned());
  }

  private static void findEach() {
    int[] dials = {4, 9, 5, 7, 11, 13};
    for (int index = 0; index < 6; index++) {
      for (int number : new int[] {0, 1, 619, 1259}) {
        RemainderYard yard = Check.yard(dials);
        yard.setSpare(2);
        for (int place = 0; place < dials[index]; place++) {
          yard.set(0, number);
          boolean same = yard.wheel(0, index) == place;
          yard.turn(0, index, place);
          check.same("35: one wheel turned", yard.find(0), same ? -1 : index);
          if (!same) {
            check.same("36: it is mended", yard.mend(0), number % dials[index]);
            check.numberIs("36: to what it was", yard, 0, Integer.toString(number));
          }
        }
      }
    }
  }

  private static void mend() {
    RemainderYard yard = turned();
    check.same("36: its place", yard.mend(0), 1);
    check.numberIs("36: the row", yard, 0, "4");
    check.textIs("36: the text stays", yard, "t");
    check.same("36: true now", yard.isTrue(0), true);
    check.same("36: the wheel was kept", yard.undo(), 0);
    check.rowIs("36: the wheel was kept", yard, 0, 0, 2, 4, 4);
    check.keeps("36: mend", FalseWheelsTest::turned, x -> x.mend(0), 0);
  }

  private static void mendSeveralPlaces() {
    RemainderYard places = Check.yard(97, 2, 3);
    places.setSpare(2);
    // by the first wheel 5, 11, 17 and so on to 95 are true; by the second one the least number is
    // 290, and by the third one 193
    places.set(0, 95);
    places.turn(0, 0, 96);
    check.same("36: the first wheel alone", places.find(0), 0);
    check.same("36: to the least number", places.mend(0), 5);
    check.numberIs("36: to the least number", places, 0, "5");
    check.same("36: and this is kept", places.undo(), 0);
    check.rowIs("36: and this is kept", places, 0, 96, 1, 2);
    RemainderYard all = Check.yard(4, 9);
    all.setSpare(2);
    all.set(0, 9);
    check.same("36: all are spare", all.mend(0), 0);
    check.rowIs("36: all are spare", all, 0, 0, 0);
  }

  private static void mendGreat() {
    int[] dials = {9901, 9907, 9923, 9929, 9931, 9941, 9949, 9967, 9973, 9999};
    for (int index = 0; index < 10; index++) {
      RemainderYard yard = Check.yard(dials);
      yard.setSpare(2);
      String number = "12345678901234567890123456789012";
      Check.type(yard, number);
      yard.read(6);
      int was = yard.wheel(6, index);
      yard.turn(6, index, (was + 1 + 1234 * index) % dials[index]);
      check.same("35: great dials", yard.find(6), index);
      check.same("36: great dials", yard.mend(6), was);
      check.numberIs("36: great dials", yard, 6, number);
    }
  }

  private static void mendRefuses() {
    check.refuses("36: true", FalseWheelsTest::turned, x -> x.mend(1), NONE);
    check.refuses("36: none", FalseWheelsTest::turned, x -> x.mend(2), NONE);
    check.refuses("36: several", () -> {
      RemainderYard yard = turned();
      yard.setSpare(1);
      return yard;
    }, x -> x.mend(2), NONE);
    check.refuses("36: without dials", RemainderYard::new, x -> x.mend(0), NONE);
    for (int row : NO_ROWS) {
      check.refuses("36: mend " + row, FalseWheelsTest::turned, x -> x.mend(row), ROW);
    }
  }
}
