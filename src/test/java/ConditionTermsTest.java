import java.math.BigInteger;

/** The paragraph Conditions of the Terms, and promises 41 to 45 at their bounds. */
public final class ConditionTermsTest {
  private static final Check check = new Check("ConditionTermsTest");

  public static void main(String[] args) {
    check.all(ConditionTermsTest.class);
  }

  private static RemainderYard conditions(int... told) {
    RemainderYard yard = new RemainderYard();
    for (int i = 0; i < told.length; i += 2) {
      yard.meet(told[i], told[i + 1]);
    }
    return yard;
  }

  private static void noneAtFirst() {
    RemainderYard yard = new RemainderYard();
    check.same("'none at first': forget()", yard.forget(), 0);
    check.same("'none at first': the first", yard.meet(0, 5), 1);
  }

  private static void atMostEight() {
    RemainderYard yard = new RemainderYard();
    for (int i = 1; i <= 8; i++) {
      check.same("'at most eight': condition " + i, Check.outcome(yard, x -> x.meet(1, 9)), i);
    }
    check.same("'at most eight': the ninth", Check.outcome(yard, x -> x.meet(1, 9)), Yards.FULL);
    check.same("'at most eight': one that is there already is no other",
        Check.outcome(yard, x -> x.meet(0, 1)), Yards.FULL);
    check.same("'at most eight': how many", yard.forget(), 8);
    for (int i = 1; i <= 8; i++) {
      check.same("'at most eight': again, " + i, Check.outcome(yard, x -> x.meet(1, 9)), i);
    }
    check.same("'at most eight': again the ninth", Check.outcome(yard, x -> x.meet(1, 9)), Yards.FULL);
  }

  private static void numberedAsTheyCome() {
    for (int one = 0; one < 8; one++) {
      for (int other = one + 1; other < 8; other++) {
        int[] free = {3, 5, 7, 11, 13, 17, 19, 23};
        RemainderYard yard = new RemainderYard();
        for (int i = 0; i < 8; i++) {
          yard.meet(i == other ? 1 : 0, i == one || i == other ? 2 : free[i]);
        }
        check.same("'numbered from 0 as they come': " + one + " and " + other, yard.apart(),
            10 * one + other);
      }
    }
  }

  private static void dialOf1To9999() {
    int[] asked = {Integer.MIN_VALUE, -9999, -1, 0, 1, 2, 9998, 9999, 10000, 10001, Integer.MAX_VALUE};
    for (int dial : asked) {
      Object due = dial >= 1 && dial <= 9999 ? (Object) 1 : Yards.RANGE;
      RemainderYard yard = new RemainderYard();
      check.same("'a dial of 1 to 9999': " + dial, Check.outcome(yard, x -> x.meet(5, dial)), due);
      check.same("'a dial of 1 to 9999': " + dial + ", how many", yard.forget(), due.equals(1) ? 1 : 0);
    }
  }

  private static void sameRemainder() {
    for (int dial : new int[] {1, 2, 7, 9999}) {
      for (int number : new int[] {0, 1, -1, dial, -dial, dial - 1, dial + 1, -dial - 1, 1 - dial,
          12345678, -12345678}) {
        RemainderYard yard = conditions(number, dial);
        check.tells("'has the same remainder': " + number + " by " + dial, yard, yard.meeting(),
            Integer.toString(Math.floorMod(number, dial)));
      }
    }
  }

  private static void commonDivisorsWithEachOther() {
    RemainderYard yard = conditions(5, 6, 5, 10, 5, 15, 5, 6, 5, 30, 5, 9990, 5, 2, 5, 5);
    check.same("'these dials may have common divisors'", yard.apart(), -1);
    check.tells("'these dials may have common divisors'", yard, yard.meeting(), "5");
    check.tells("'these dials may have common divisors'", yard, yard.period(), "9990");
  }

  private static void commonDivisorsWithTheDials() {
    RemainderYard yard = Check.yard(6, 35);
    check.same("a dial of the yard as that of a condition", Check.outcome(yard, x -> x.meet(1, 6)), 1);
    check.same("a divisor of one", Check.outcome(yard, x -> x.meet(1, 7)), 2);
    check.same("a dial of a condition comes", Check.outcome(yard, x -> x.addDial(11)), 2);
    check.tells("the dials of the yard are none of them", yard, yard.meeting(), "1");
  }

  private static void theDialsAreNoConditions() {
    RemainderYard yard = Check.yard(4, 9);
    yard.set(0, 23);
    yard.meet(2, 4);
    yard.dropDial(0);
    check.same("a dial goes, the conditions stay", yard.meet(1, 5), 2);
    check.tells("a dial goes, the conditions stay", yard, yard.meeting(), "6");
    check.tells("a dial goes, the conditions stay", yard, yard.period(), "20");
    check.tells("and conditions change no row", yard, yard.tell(0), "5");
  }

  /** No row, no dial, no spare one and nothing that is kept, also by the first of such calls. */
  private static void conditionsChangeNothingElse() {
    Check.Call[] calls = {x -> x.meet(4, 9), x -> x.apart(), x -> x.meeting(), x -> x.period(),
        x -> x.forget()};
    for (int i = 0; i < calls.length; i++) {
      RemainderYard yard = Check.yard(3, 5, 7);
      yard.setSpare(2);
      for (int row = 0; row < 12; row++) {
        yard.set(row, -1);
      }
      Check.outcome(yard, calls[i]);
      String what = "conditions and nothing else, " + i;
      for (int row = 0; row < 12; row++) {
        check.same(what + ", row " + row, Yards.row(yard, row), "2 4 6");
      }
      check.same(what + ", the dials", yard.dialAt(0) + yard.dialAt(1) + yard.dialAt(2), 15);
      for (int row = 11; row >= 0; row--) {
        check.same(what + ", undo()", Check.outcome(yard, x -> x.undo()), row);
      }
      check.same(what + ", no more", Check.outcome(yard, x -> x.undo()), Yards.NONE);
      check.same(what + ", spare ones", yard.setSpare(0), 2);
    }
  }

  private static void apartOfSeveralPairs() {
    // 0 and 1 by 3, and 0, 1 and 2 by 4: 0 with 3, 1 with 2, 1 with 4, and 2 with 4
    RemainderYard yard = conditions(0, 3, 0, 4, 1, 4, 1, 3, 2, 4);
    check.same("'the first two': of four pairs", yard.apart(), 3);
    check.same("'the first two': of three", conditions(0, 5, 0, 4, 1, 4, 1, 3, 2, 4).apart(), 12);
  }

  private static void apartTakesTheLeastOne() {
    // 1 with 2, and 0 with 7: the least other one is with the greater first one
    RemainderYard yard = conditions(0, 9, 0, 2, 1, 2, 0, 5, 0, 7, 0, 11, 0, 13, 1, 9);
    check.same("'of those the one with the least number'", yard.apart(), 7);
  }

  private static void apartTakesTheLeastOtherOne() {
    RemainderYard yard = conditions(0, 5, 0, 36, 0, 7, 1, 9, 1, 4, 2, 6);
    check.same("'and with it the least other one behind it'", yard.apart(), 13);
  }

  /** Four conditions with all remainders by small dials, against each two of them, one after the other. */
  private static void apartOfAllSmallOnes() {
    int[][] yards = {{4, 6, 9, 2}, {6, 4, 6, 3}, {2, 2, 2, 2}, {9, 3, 1, 6}};
    for (int[] dials : yards) {
      int all = dials[0] * dials[1] * dials[2] * dials[3];
      for (int i = 0; i < all; i++) {
        int[] told = new int[8];
        int left = i;
        for (int j = 0; j < 4; j++) {
          told[2 * j] = left % dials[j];
          told[2 * j + 1] = dials[j];
          left /= dials[j];
        }
        check.same("apart: " + java.util.Arrays.toString(told), conditions(told).apart(), firstApart(told));
      }
    }
  }

  private static int firstApart(int[] told) {
    for (int one = 0; one < told.length; one += 2) {
      for (int other = one + 2; other < told.length; other += 2) {
        boolean met = false;
        for (int number = 0; number < told[one + 1] * told[other + 1]; number++) {
          met |= number % told[one + 1] == told[one] && number % told[other + 1] == told[other];
        }
        if (!met) {
          return 10 * (one / 2) + other / 2;
        }
      }
    }
    return -1;
  }

  private static void apartWithoutConditions() {
    check.same("apart: '-1 if there are none', no condition", new RemainderYard().apart(), -1);
    check.same("apart: '-1 if there are none', one", conditions(3, 4).apart(), -1);
    check.same("apart: '-1 if there are none', two that are the same", conditions(3, 4, 7, 4).apart(), -1);
    check.same("apart: 0 and 1 are told by 1", conditions(3, 4, 2, 4).apart(), 1);
    RemainderYard gone = conditions(3, 4, 2, 4);
    gone.forget();
    check.same("apart: '-1 if there are none', all have gone", gone.apart(), -1);
  }

  private static void meetingWithoutConditions() {
    RemainderYard yard = new RemainderYard();
    Check.type(yard, "x");
    check.tells("meeting without conditions", yard, yard.meeting(), "0");
    RemainderYard dials = Check.yard(3, 5);
    dials.set(0, 7);
    check.tells("meeting without conditions, with dials", dials, dials.meeting(), "0");
    dials.meet(4, 9);
    dials.forget();
    check.tells("meeting without conditions, all have gone", dials, dials.meeting(), "0");
  }

  private static void meetingIsTheLeast() {
    for (int a = 0; a < 4; a++) {
      for (int b = 0; b < 6; b++) {
        int due = 0;
        while (due < 12 && (due % 4 != a || due % 6 != b)) {
          due++;
        }
        RemainderYard yard = conditions(a + 4000, 4, b - 6000, 6);
        Object got = Check.outcome(yard, x -> x.meeting());
        String told = due < 12 ? Integer.toString(due) : "";
        check.same("'the least number, not below 0': " + a + ", " + b, got,
            due < 12 ? told.length() : Yards.NONE);
        check.textIs("'the least number, not below 0': " + a + ", " + b, yard, told);
      }
    }
  }

  private static void meetingThrows() {
    check.refuses("meeting: 'if there is none', the first two", () -> conditions(0, 2, 1, 2),
        x -> x.meeting(), Yards.NONE);
    check.refuses("meeting: 'if there is none', the last two",
        () -> conditions(0, 3, 0, 5, 0, 7, 0, 11, 0, 13, 0, 17, 0, 9998, 1, 9998), x -> x.meeting(),
        Yards.NONE);
    check.refuses("meeting: 'if there is none', the first and the last", Yards::full,
        x -> x.meeting(), Yards.NONE);
    // each two of the dials have a common divisor, and each two of the conditions can be met
    RemainderYard yard = conditions(1, 6, 3, 10, 13, 15);
    check.tells("meeting: each two can be met", yard, yard.meeting(), "13");
  }

  private static void periodWithoutConditions() {
    RemainderYard yard = new RemainderYard();
    Check.type(yard, "x");
    check.tells("period without conditions", yard, yard.period(), "1");
    RemainderYard dials = Check.yard(3, 5);
    dials.meet(4, 9);
    dials.forget();
    check.tells("period without conditions, all have gone", dials, dials.period(), "1");
  }

  private static void periodWhereApart() {
    RemainderYard yard = conditions(0, 4, 1, 6, 1, 4);
    check.tells("period: 'the least common multiple', where two are apart", yard, yard.period(), "12");
  }

  private static void periodOfOnes() {
    RemainderYard yard = conditions(9, 1, 8, 1);
    check.tells("period: dials of 1", yard, yard.period(), "1");
    check.tells("meeting: dials of 1", yard, yard.meeting(), "0");
    yard.meet(6, 8);
    check.tells("period: a dial of 8 behind them", yard, yard.period(), "8");
    check.tells("meeting: a dial of 8 behind them", yard, yard.meeting(), "6");
  }

  private static void greatestPeriod() {
    int[] dials = {9999, 9998, 9997, 9995, 9991, 9989, 9973, 9967};
    RemainderYard yard = new RemainderYard();
    for (int i = 0; i < 8; i++) {
      yard.meet(-1 - i, dials[i]);
    }
    BigInteger period = Yards.product(dials);
    check.tells("period: of eight great dials", yard, yard.period(), period.toString());
    yard.meeting();
    BigInteger least = new BigInteger(Check.textOf(yard));
    for (int i = 0; i < 8; i++) {
      check.same("meeting: condition " + i + " of eight great dials",
          least.mod(BigInteger.valueOf(dials[i])).intValue(), dials[i] - 1 - i);
    }
    check.same("meeting: below the period", least.compareTo(period) < 0, true);
  }

  private static void forgetLetsAllGo() {
    for (int many = 0; many <= 8; many++) {
      RemainderYard yard = new RemainderYard();
      for (int i = 0; i < many; i++) {
        yard.meet(i, 2);
      }
      check.same("forget: 'how many there were'", yard.forget(), many);
      check.same("forget: none is left", yard.forget(), 0);
      check.same("forget: none is apart", yard.apart(), -1);
      check.same("forget: as at first", yard.checksum(), 217L);
      check.same("forget: the next is the first", yard.meet(1, 3), 1);
    }
  }
}
