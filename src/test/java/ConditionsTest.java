import java.util.NoSuchElementException;

/** Promises 41 to 45: conditions. */
public final class ConditionsTest {
  private static final Class<?> NONE = NoSuchElementException.class;
  private static final Class<?> WRONG = IllegalArgumentException.class;
  private static final Class<?> FULL = IllegalStateException.class;
  private static final Check check = new Check("ConditionsTest");

  public static void main(String[] args) {
    meet();
    meetRefuses();
    apart();
    meeting();
    meetingEach();
    meetingGreat();
    period();
    forget();
    check.end();
  }

  /** Conditions of numbers and dials, turn by turn. */
  private static RemainderYard conditions(int... told) {
    RemainderYard yard = new RemainderYard();
    for (int i = 0; i < told.length; i += 2) {
      yard.meet(told[i], told[i + 1]);
    }
    return yard;
  }

  private static RemainderYard eight() {
    RemainderYard yard = conditions(1, 2, 1, 3, 1, 4, 1, 5, 1, 6, 1, 7, 1, 8, 1, 9);
    yard.addDial(5);
    yard.set(2, 4);
    Check.type(yard, "t");
    return yard;
  }

  private static void meet() {
    RemainderYard yard = new RemainderYard();
    check.same("41: the first", yard.meet(2, 3), 1);
    check.same("41: the least dial", yard.meet(-1, 1), 2);
    check.same("41: the greatest dial", yard.meet(Integer.MAX_VALUE, 9999), 3);
    check.same("41: the same again", yard.meet(2, 3), 4);
    check.same("41: one that cannot be met", yard.meet(1, 3), 5);
    check.same("41: below 0", yard.meet(-1, 4), 6);
    check.same("41: the least number", yard.meet(Integer.MIN_VALUE, 10), 7);
    check.same("41: the eighth", yard.meet(0, 2), 8);
    long sum = 217;
    int[] due = {3, 2, 1, 0, 9999, Integer.MAX_VALUE % 9999, 3, 2, 3, 1, 4, 3, 10, 2, 2, 0};
    for (int part : due) {
      sum = 31 * sum + part;
    }
    check.same("41: dials and remainders", yard.checksum(), sum);
    check.same("41: no dial of the yard", yard.dials(), 0);
  }

  private static void meetRefuses() {
    Check.Maker few = () -> conditions(1, 2, 2, 3);
    for (int dial : new int[] {0, -1, 10000, Integer.MAX_VALUE, Integer.MIN_VALUE}) {
      check.refuses("41: dial " + dial, few, x -> x.meet(1, dial), WRONG);
      check.refuses("41: eight, dial " + dial, ConditionsTest::eight, x -> x.meet(1, dial), WRONG);
    }
    check.refuses("41: eight", ConditionsTest::eight, x -> x.meet(1, 2), FULL);
  }

  private static void apart() {
    check.same("42: none", new RemainderYard().apart(), -1);
    check.same("42: one", conditions(1, 2).apart(), -1);
    check.same("42: 2 by 4, 0 by 6", conditions(2, 4, 0, 6).apart(), -1);
    check.same("42: 1 by 4, 0 by 6", conditions(1, 4, 0, 6).apart(), 1);
    check.same("42: the least first one", conditions(0, 5, 0, 4, 1, 6, 0, 6, 1, 4, 1, 5).apart(), 5);
    check.same("42: and the least other one", conditions(0, 3, 0, 4, 0, 6, 1, 6, 1, 4).apart(), 3);
    check.same("42: from the second on", conditions(0, 7, 0, 4, 0, 6, 1, 6, 1, 4).apart(), 13);
    check.same("42: the third and the seventh", conditions(0, 1, 0, 3, 0, 5, 0, 7, 0, 11, 0, 13, 3,
        10, 4, 10).apart(), 26);
    check.same("42: the last two alone", conditions(0, 1, 0, 3, 0, 7, 0, 11, 0, 13, 0, 17, 3, 10,
        4, 10).apart(), 67);
    check.same("42: the same dial", conditions(1, 9999, 2, 9999).apart(), 1);
    check.same("42: by 1 all can be met", conditions(0, 1, 1, 1, 5, 7).apart(), -1);
    check.same("42: below 0", conditions(-1, 4, 3, 8).apart(), -1);
  }

  private static void meeting() {
    RemainderYard none = new RemainderYard();
    check.tells("43: without conditions", none, none.meeting(), "0");
    tellsMeeting("6", 2, 4, 0, 6);
    tellsMeeting("23", 2, 3, 3, 5, 2, 7);
    tellsMeeting("23", 2, 7, 3, 5, 2, 3);
    tellsMeeting("0", 0, 9, 0, 6);
    tellsMeeting("8", -1, 9, 8, 9, 2, 3);
    tellsMeeting("0", 5, 1);
    tellsMeeting("59", 1, 2, 2, 3, 3, 4, 4, 5, 5, 6);
    tellsMeeting("2519", 8, 9, 7, 8, 6, 7, 5, 6, 4, 5, 3, 4, 2, 3, 1, 2);
    tellsMeeting("9998", -1, 9999, -1, 3333, -1, 1111, -1, 1);
    check.refuses("43: apart", () -> conditions(1, 4, 0, 6), x -> x.meeting(), NONE);
    check.refuses("43: the last two apart", () -> {
      RemainderYard yard = conditions(1, 2, 1, 3, 1, 5, 1, 7, 3, 9998, 4, 9998);
      yard.addDial(3);
      yard.set(0, 2);
      Check.type(yard, "t");
      return yard;
    }, x -> x.meeting(), NONE);
    RemainderYard yard = conditions(1, 4, 2, 3);
    yard.addDial(7);
    yard.set(0, 3);
    yard.meeting();
    check.same("43: rows and kept calls stay", yard.undo(), 0);
  }

  private static void tellsMeeting(String due, int... told) {
    RemainderYard yard = conditions(told);
    Check.type(yard, "what was there");
    check.tells("43: " + java.util.Arrays.toString(told), yard, yard.meeting(), due);
  }

  /** All remainders by dials with common divisors, against the numbers one after the other. */
  private static void meetingEach() {
    int[][] dials = {{4, 6, 10}, {6, 10, 15}, {8, 12, 18}, {9, 9, 3}, {1, 5, 10}};
    for (int[] dial : dials) {
      for (int i = 0; i < dial[0] * dial[1] * dial[2]; i++) {
        int a = i % dial[0];
        int b = i / dial[0] % dial[1];
        int c = i / dial[0] / dial[1];
        int number = 0;
        while (number < 1000 && (number % dial[0] != a || number % dial[1] != b
            || number % dial[2] != c)) {
          number++;
        }
        RemainderYard yard = conditions(a, dial[0], b, dial[1], c, dial[2]);
        String due = number == 1000 ? "" : Integer.toString(number);
        Object answer = Check.outcome(yard, x -> x.meeting());
        check.same("43: each, the answer", answer, number == 1000 ? NONE : due.length());
        check.textIs("43: each", yard, due);
        check.same("42: each", yard.apart() < 0, number < 1000);
        check.same("47: each", yard.isSound(), true);
      }
    }
  }

  private static void meetingGreat() {
    RemainderYard yard = conditions(-1, 9999, -1, 9998, -1, 9997, -1, 9995, -1, 9991, -1, 9989, -1,
        9973, -1, 9967);
    java.math.BigInteger period = java.math.BigInteger.ONE;
    for (int dial : new int[] {9999, 9998, 9997, 9995, 9991, 9989, 9973, 9967}) {
      period = period.multiply(java.math.BigInteger.valueOf(dial));
    }
    check.tells("44: eight great ones", yard, yard.period(), period.toString());
    check.tells("43: eight great ones", yard, yard.meeting(),
        period.subtract(java.math.BigInteger.ONE).toString());
    check.same("47: eight great ones", yard.isSound(), true);
  }

  private static void period() {
    RemainderYard none = new RemainderYard();
    check.tells("44: without conditions", none, none.period(), "1");
    tellsPeriod("12", 2, 4, 0, 6);
    tellsPeriod("12", 1, 4, 0, 6);
    tellsPeriod("1", 1, 1, 0, 1);
    tellsPeriod("9999", 1, 9999, 2, 9999, 0, 3);
    tellsPeriod("2520", 1, 2, 1, 3, 1, 4, 1, 5, 1, 6, 1, 7, 1, 8, 1, 9);
    tellsPeriod("30", 1, 6, 1, 10, 1, 15);
    tellsPeriod("72", 0, 8, 0, 9, 0, 12);
  }

  private static void tellsPeriod(String due, int... told) {
    RemainderYard yard = conditions(told);
    Check.type(yard, "what was there");
    check.tells("44: " + java.util.Arrays.toString(told), yard, yard.period(), due);
  }

  private static void forget() {
    RemainderYard yard = eight();
    check.same("45: eight", yard.forget(), 8);
    check.same("45: none", yard.forget(), 0);
    check.same("45: nothing is apart", yard.apart(), -1);
    check.same("45: one comes again", yard.meet(3, 7), 1);
    check.textIs("45: the text stays", yard, "t");
    check.tells("45: it alone", yard, yard.meeting(), "3");
    check.same("45: kept calls stay", yard.undo(), 2);
    RemainderYard bare = new RemainderYard();
    bare.meet(1, 2);
    bare.forget();
    check.same("45: checksum", bare.checksum(), 217L);
  }
}
