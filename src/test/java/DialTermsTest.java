/** The paragraph Dials of the Terms, and promises 2 to 8 at their bounds: each sentence by itself. */
public final class DialTermsTest {
  private static final Check check = new Check("DialTermsTest");

  public static void main(String[] args) {
    check.all(DialTermsTest.class);
  }

  /** Numbers are true up to just the product of the main dials; row 11 is used for it. */
  private static void mainProductIs(String what, RemainderYard yard, long due) {
    yard.product();
    long all = Long.parseLong(Check.textOf(yard));
    yard.set(11, due - 1);
    check.same(what + ", " + (due - 1) + " is true", yard.isTrue(11), true);
    yard.set(11, due);
    check.same(what + ", " + due + " is true", yard.isTrue(11), due == all);
  }

  private static void noneAtFirst() {
    RemainderYard yard = new RemainderYard();
    check.same("'none at first': dials()", yard.dials(), 0);
    check.same("'none at first': dialAt(0)", Check.outcome(yard, x -> x.dialAt(0)), Yards.NONE);
    check.same("'none at first': clash()", yard.clash(6), -1);
  }

  private static void atMostTen() {
    RemainderYard yard = Check.yard(2, 3, 5, 7, 11, 13, 17, 19, 23);
    check.same("'at most ten': the tenth comes", Check.outcome(yard, x -> x.addDial(29)), 9);
    check.same("'at most ten': the eleventh", Check.outcome(yard, x -> x.addDial(31)), Yards.FULL);
    check.same("'at most ten': how many", yard.dials(), 10);
    yard.dropDial(0);
    check.same("'at most ten': one has gone", Check.outcome(yard, x -> x.addDial(31)), 9);
    check.same("'at most ten': ten again", Check.outcome(yard, x -> x.addDial(37)), Yards.FULL);
  }

  private static void numberedAsTheyCome() {
    int[] dials = {9973, 4, 9, 9967, 25, 2401, 11, 9949, 13, 17};
    RemainderYard yard = new RemainderYard();
    for (int i = 0; i < 10; i++) {
      check.same("'numbered from 0 as they come': " + dials[i], yard.addDial(dials[i]), i);
      check.same("'numbered from 0 as they come': how many", yard.dials(), i + 1);
    }
    for (int i = 0; i < 10; i++) {
      check.same("'numbered from 0 as they come': dialAt", yard.dialAt(i), dials[i]);
    }
  }

  private static void from2To9999() {
    int[] asked = {Integer.MIN_VALUE, -9999, -2, -1, 0, 1, 2, 3, 9998, 9999, 10000, 10001,
        Integer.MAX_VALUE};
    for (int dial : asked) {
      Object due = dial >= 2 && dial <= 9999 ? (Object) 0 : Yards.RANGE;
      RemainderYard yard = new RemainderYard();
      check.same("'from 2 to 9999': " + dial, Check.outcome(yard, x -> x.addDial(dial)), due);
      check.same("'from 2 to 9999': " + dial, yard.dials(), due.equals(0) ? 1 : 0);
    }
  }

  private static void clashFrom2To9999() {
    int[] asked = {Integer.MIN_VALUE, -3, -1, 0, 1, 2, 9999, 10000, 10005, Integer.MAX_VALUE};
    for (int dial : asked) {
      Object due = dial == 2 ? -1 : dial == 9999 ? (Object) 1 : Yards.RANGE;
      RemainderYard yard = Check.yard(5, 3);
      check.same("clash, 'the one, 2 to 9999': " + dial, Check.outcome(yard, x -> x.clash(dial)), due);
    }
  }

  private static void noCommonDivisor() {
    RemainderYard yard = Check.yard(4, 9, 25);
    int[] clashing = {2, 3, 4, 5, 6, 8, 9, 10, 15, 21, 22, 27, 35, 49 * 25, 9999, 9998, 9995, 100};
    for (int dial : clashing) {
      check.same("'no two with a common divisor above 1': " + dial,
          Check.outcome(yard, x -> x.addDial(dial)), Yards.CLASH);
    }
    check.same("'no two with a common divisor above 1': three as they were", yard.dials(), 3);
    int index = 3;
    for (int dial : new int[] {7, 11, 9997, 289}) {
      check.same("'no two with a common divisor above 1': " + dial + " has none",
          Check.outcome(yard, x -> x.addDial(dial)), index);
      index++;
    }
  }

  private static void commonDivisorOfGreatOnes() {
    // 9991 is 97 * 103, 9797 is 97 * 101, 9888 is 103 * 96
    RemainderYard yard = Check.yard(9991);
    check.same("a common divisor 97", Check.outcome(yard, x -> x.addDial(9797)), Yards.CLASH);
    check.same("a common divisor 103", Check.outcome(yard, x -> x.addDial(9888)), Yards.CLASH);
    check.same("9991 itself", Check.outcome(yard, x -> x.addDial(9991)), Yards.CLASH);
    check.same("9990 beside 9991", Check.outcome(yard, x -> x.addDial(9990)), 1);
  }

  private static void firstClash() {
    RemainderYard yard = Check.yard(7, 10, 9, 11);
    check.same("'the first dial with which one has': 30", yard.clash(30), 1);
    check.same("'the first dial with which one has': 99", yard.clash(99), 2);
    check.same("'the first dial with which one has': 770", yard.clash(770), 0);
    check.same("'the first dial with which one has': the last", yard.clash(121), 3);
    check.same("'or -1': 13", yard.clash(13), -1);
    check.same("'or -1': 9997", yard.clash(9997), -1);
  }

  private static void productIsOfAll() {
    RemainderYard yard = Check.yard(9, 10, 11);
    for (int spare = 0; spare <= 3; spare++) {
      yard.setSpare(spare);
      check.tells("'the product is that of all dials': " + spare + " spare", yard, yard.product(), "990");
    }
    yard.dropDial(1);
    check.tells("'the product is that of all dials': one has gone", yard, yard.product(), "99");
    RemainderYard great = Check.yard(Yards.GREAT);
    check.tells("'the product is that of all dials': ten great ones", great, great.product(),
        Yards.product(Yards.GREAT).toString());
  }

  private static void productWithoutAny() {
    RemainderYard yard = new RemainderYard();
    check.tells("'1 without any': a new yard", yard, yard.product(), "1");
    yard.addDial(8);
    yard.dropDial(0);
    check.tells("'1 without any': the only one has gone", yard, yard.product(), "1");
  }

  private static void noneSpareAtFirst() {
    check.same("'none at first': spare ones", new RemainderYard().setSpare(0), 0);
    RemainderYard yard = Check.yard(3, 5, 7);
    mainProductIs("'none at first': all are main", yard, 105);
    check.same("'none at first': with dials", yard.setSpare(1), 0);
  }

  private static void lastOnesAreSpare() {
    long[] due = {210, 30, 6, 2, 1};
    for (int spare = 0; spare <= 4; spare++) {
      RemainderYard yard = Check.yard(2, 3, 5, 7);
      yard.setSpare(spare);
      mainProductIs("'the last dials, as many as told': " + spare, yard, due[spare]);
    }
  }

  /** Those of rows that ask for the product or the number of a row, by all dials. */
  private static void spareDialsCountInAllOtherCalls() {
    Check.Call[] calls = {x -> x.product(), x -> x.set(1, 208), x -> x.set(1, 210), x -> x.tell(0),
        x -> x.tellSigned(0), x -> x.tellSigned(2), x -> x.copy(1, 0), x -> x.add(1, 0, 0),
        x -> x.divideBy(1, 0, 3), x -> x.divideBy(1, 0, 0), x -> x.inverse(1, 0), x -> x.power(1, 0, -1),
        x -> x.digit(0, 3), x -> x.compare(0, 2), x -> x.sign(0), x -> x.sign(2),
        x -> x.isOver(0, 2, '+'), x -> x.isOver(2, 2, '+'), x -> x.isOver(2, 2, '*'),
        x -> x.isOver(3, 3, '*'), x -> x.isEnough(0), x -> x.isEnough(3), x -> x.setFraction(1, 3, 11),
        x -> x.fraction(2), x -> x.fraction(3), x -> x.told(0, 15), x -> x.told(0, 9), x -> x.told(0, 12),
        x -> x.open(2), x -> x.open(4), x -> x.isSound(), x -> x.addDial(11), x -> x.clash(7)};
    for (int i = 0; i < calls.length; i++) {
      for (int spare = 1; spare <= 4; spare++) {
        RemainderYard yard = spareOf(spare);
        RemainderYard due = spareOf(0);
        String what = "a call that does not ask for main dials, " + i + ", " + spare + " spare";
        check.same(what, Check.outcome(yard, calls[i]), Check.outcome(due, calls[i]));
        check.same(what + ", the rows", Check.wheelsOf(yard), Check.wheelsOf(due));
        check.same(what + ", the text", Check.textOf(yard), Check.textOf(due));
      }
    }
  }

  /** By 2, 3, 5 and 7; row 0 is 143, row 2 is 13, rows 3 and 4 are 2 and 1. */
  private static RemainderYard spareOf(int many) {
    RemainderYard yard = Check.yard(2, 3, 5, 7);
    yard.set(0, 143);
    yard.set(2, 13);
    yard.set(3, 2);
    yard.set(4, 1);
    yard.setSpare(many);
    return yard;
  }

  private static void spareBounds() {
    for (int dials = 0; dials <= 10; dials++) {
      RemainderYard yard = Check.yard(java.util.Arrays.copyOf(Yards.PRIMES, dials));
      String what = "setSpare with " + dials + " dials: ";
      int many = dials;
      check.same(what + "all", Check.outcome(yard, x -> x.setSpare(many)), 0);
      check.same(what + "one too many", Check.outcome(yard, x -> x.setSpare(many + 1)), Yards.RANGE);
      check.same(what + "-1", Check.outcome(yard, x -> x.setSpare(-1)), Yards.RANGE);
      check.same(what + "the least", Check.outcome(yard, x -> x.setSpare(Integer.MIN_VALUE)), Yards.RANGE);
      check.same(what + "the greatest", Check.outcome(yard, x -> x.setSpare(Integer.MAX_VALUE)),
          Yards.RANGE);
      check.same(what + "'returns how many were'", Check.outcome(yard, x -> x.setSpare(0)), many);
      check.same(what + "none were", Check.outcome(yard, x -> x.setSpare(0)), 0);
    }
  }

  private static void oneThatComesIsSpare() {
    RemainderYard yard = Check.yard(3, 5);
    yard.setSpare(1);
    yard.addDial(7);
    mainProductIs("'it is a spare one if some are told'", yard, 15);
    check.same("'it is a spare one if some are told': one is told", yard.setSpare(3), 1);
    yard.addDial(11);
    mainProductIs("'it is a spare one if some are told': where all are", yard, 3);
  }

  private static void firstSpareBecomesMain() {
    RemainderYard yard = Check.yard(3, 5, 7);
    yard.setSpare(2);
    mainProductIs("'the first of these a main one then': ahead of it", yard, 3);
    yard.addDial(11);
    mainProductIs("'the first of these a main one then'", yard, 15);
    check.same("'the first of these a main one then': as many are told", yard.setSpare(2), 2);
    yard.addDial(2);
    mainProductIs("'the first of these a main one then': once more", yard, 105);
  }

  private static void firstOfAllSpareBecomesMain() {
    RemainderYard yard = Check.yard(3, 5);
    yard.setSpare(2);
    yard.addDial(7);
    mainProductIs("'the first of these a main one then': where all were spare", yard, 3);
    check.same("'the first of these a main one then': two are told", yard.setSpare(3), 2);
  }

  private static void oneThatComesIsMainIfNoneIsTold() {
    RemainderYard yard = new RemainderYard();
    yard.addDial(3);
    mainProductIs("'if some are told': none is, the first dial", yard, 3);
    yard.addDial(5);
    mainProductIs("'if some are told': none is, the second dial", yard, 15);
    check.same("'if some are told': none is", yard.setSpare(0), 0);
  }

  private static void fewerDialsThanSpareOnes() {
    String what = "'if there are fewer dials than spare ones then': ";
    for (int index = 0; index < 3; index++) {
      RemainderYard yard = Check.yard(3, 5, 7);
      yard.setSpare(3);
      yard.dropDial(index);
      mainProductIs(what + "'all of them are spare', without dial " + index, yard, 1);
      check.same(what + "'as many are told', without dial " + index, yard.setSpare(2), 2);
    }
    RemainderYard yard = Check.yard(3, 5, 7);
    yard.setSpare(3);
    yard.dropDial(2);
    yard.addDial(7);
    check.same(what + "'as many are told', so that one that comes makes one main", yard.setSpare(2), 2);
    mainProductIs(what + "'as many are told', so that one that comes makes one main", yard, 3);
  }

  private static void asManyAsDials() {
    String what = "as many dials as spare ones then: ";
    for (int index = 0; index < 3; index++) {
      RemainderYard yard = Check.yard(3, 5, 7);
      yard.setSpare(2);
      yard.dropDial(index);
      mainProductIs(what + "all are spare, without dial " + index, yard, 1);
      check.same(what + "two are told, without dial " + index, yard.setSpare(0), 2);
    }
    RemainderYard more = Check.yard(3, 5, 7);
    more.setSpare(1);
    more.dropDial(2);
    check.same("more dials than spare ones then: as many are told", more.setSpare(1), 1);
    mainProductIs("more dials than spare ones then: the last one is spare", more, 3);
  }

  private static void lastDialGoes() {
    RemainderYard yard = Check.yard(6);
    yard.setSpare(1);
    check.same("the only dial goes, a spare one", yard.dropDial(0), 6);
    check.same("the only dial goes: none is told", yard.setSpare(0), 0);
    yard.addDial(35);
    mainProductIs("the only dial goes: the next is a main one", yard, 35);
  }

  private static void numbersBehindAreLess() {
    for (int gone = 0; gone < 5; gone++) {
      int[] dials = {7, 4, 9, 25, 11};
      RemainderYard yard = Check.yard(dials);
      check.same("dropDial: 'returns the dial', " + gone, yard.dropDial(gone), dials[gone]);
      check.same("dropDial: how many are left", yard.dials(), 4);
      for (int i = 0; i < 4; i++) {
        check.same("dropDial: 'the numbers of those behind it are less by 1', " + gone,
            yard.dialAt(i), dials[i < gone ? i : i + 1]);
      }
    }
  }

  private static void dropBounds() {
    for (int dials = 0; dials <= 10; dials++) {
      RemainderYard yard = Check.yard(java.util.Arrays.copyOf(Yards.PRIMES, dials));
      int many = dials;
      for (int index : new int[] {-1, many, many + 1, Integer.MAX_VALUE, Integer.MIN_VALUE}) {
        check.same("dropDial " + index + " of " + many, Check.outcome(yard, x -> x.dropDial(index)),
            Yards.NONE);
      }
      check.same("dropDial: none has gone", yard.dials(), many);
      if (many > 0) {
        check.same("dropDial: the last of " + many, Check.outcome(yard, x -> x.dropDial(many - 1)),
            Yards.PRIMES[many - 1]);
      }
      if (many > 1) {
        check.same("dropDial: the first of " + many, Check.outcome(yard, x -> x.dropDial(0)), 2);
      }
    }
  }

  private static void dialAtBounds() {
    for (int dials = 0; dials <= 10; dials++) {
      RemainderYard yard = Check.yard(java.util.Arrays.copyOf(Yards.PRIMES, dials));
      int many = dials;
      for (int index : new int[] {-1, many, many + 1, Integer.MAX_VALUE, Integer.MIN_VALUE}) {
        check.same("dialAt " + index + " of " + many, Check.outcome(yard, x -> x.dialAt(index)),
            Yards.NONE);
      }
      for (int i = 0; i < many; i++) {
        check.same("dialAt " + i + " of " + many, yard.dialAt(i), Yards.PRIMES[i]);
      }
    }
  }
}
