import java.math.BigInteger;

/** Promises 34 to 36 at their edges: what find() tells, and the places to which mend() turns. */
public final class MendEdgesTest {
  private static final int[][] YARDS = {{7}, {2, 3}, {3, 2}, {2, 3, 5}, {5, 3, 2}, {4, 9, 5}, {9, 4, 5},
      {2, 3, 5, 7}, {7, 5, 3, 2}, {3, 8, 7}, {11, 2, 3}, {5, 11, 2, 3}, {11, 5, 2, 3}};
  private static final Check check = new Check("MendEdgesTest");

  public static void main(String[] args) {
    check.all(MendEdgesTest.class);
  }

  private static RemainderYard yard(int number, int spare, int... dials) {
    RemainderYard yard = Check.yard(dials);
    yard.setSpare(spare);
    yard.set(5, number);
    return yard;
  }

  private static void findTrue() {
    check.same("find: '-1 if the row is true', 0", yard(0, 2, 3, 5, 7).find(5), -1);
    check.same("find: '-1 if the row is true', the greatest", yard(2, 2, 3, 5, 7).find(5), -1);
    check.same("find: the product of the main dials is false", yard(3, 2, 3, 5, 7).find(5) == -1, false);
    check.same("find: without dials", new RemainderYard().find(5), -1);
  }

  private static void findWithoutSpareDials() {
    for (int number = 0; number < 30; number++) {
      check.same("find: without spare dials", yard(number, 0, 2, 3, 5).find(5), -1);
    }
  }

  private static void findJustOne() {
    // 104 is 14 by 15, 34 by 35 and 20 by 21, and 15 is the product of the main dials
    check.same("find: 'if there is just one such dial', the last", yard(104, 1, 3, 5, 7).find(5), 2);
    // below 7 is true: 30 is 0, 30 and 9 by 15, 35 and 21; 40 is 10, 5 and 19; 22 is 7, 22 and 1
    check.same("find: 'if there is just one such dial', the first", yard(30, 2, 7, 3, 5).find(5), 0);
    check.same("find: 'if there is just one such dial', inside", yard(40, 2, 7, 3, 5).find(5), 1);
    check.same("find: 'if there is just one such dial', a spare one", yard(22, 2, 7, 3, 5).find(5), 2);
    check.same("find: 'if there is just one such dial', of one", yard(4, 1, 7).find(5), 0);
  }

  private static void findNone() {
    // 29 by 10, 15 and 6, none of them below 2
    check.same("find: '-2 if there is none'", yard(29, 2, 2, 3, 5).find(5), -2);
    check.same("find: '-2 if there is none', all are spare", yard(29, 3, 2, 3, 5).find(5), -2);
  }

  private static void findSeveral() {
    // below 6 is true: 10 is 10, 0 and 4 by 15, 10 and 6
    check.same("find: '-3 if there are several', two", yard(10, 1, 2, 3, 5).find(5), -3);
    // below 15 is true: 35 is 0, 14 and 5 by 35, 21 and 15
    check.same("find: '-3 if there are several', all three", yard(35, 1, 3, 5, 7).find(5), -3);
  }

  private static void findWhereAllAreSpare() {
    // then 0 alone is true, so that one wheel may be at another place
    for (int number = 0; number < 30; number++) {
      int[] places = {number % 2, number % 3, number % 5};
      int wrong = 0;
      int last = -1;
      for (int i = 0; i < 3; i++) {
        wrong += places[i] == 0 ? 0 : 1;
        last = places[i] == 0 ? last : i;
      }
      check.same("find: all are spare, " + number, yard(number, 3, 2, 3, 5).find(5),
          wrong == 0 ? -1 : wrong == 1 ? last : -2);
    }
  }

  /** The least number below the main product that differs by this wheel alone, or -1. */
  static int least(int number, int wheel, int main, int[] dials) {
    int product = Yards.product(dials).intValue();
    int others = product / dials[wheel];
    return number % others < main ? number % others : -1;
  }

  static int found(int number, int main, int[] dials) {
    int found = -2;
    for (int i = 0; i < dials.length && number >= main; i++) {
      if (least(number, i, main, dials) >= 0) {
        found = found == -2 ? i : -3;
      }
    }
    return number < main ? -1 : found;
  }

  private static void findEachRow() {
    boolean[] seen = new boolean[10];
    for (int[] dials : YARDS) {
      int product = Yards.product(dials).intValue();
      for (int spare = 0; spare <= dials.length; spare++) {
        int main = Yards.product(java.util.Arrays.copyOf(dials, dials.length - spare)).intValue();
        for (int number = 0; number < product; number++) {
          int due = foundBySearch(number, main, dials);
          check.same("find by the search and by the rule", found(number, main, dials), due);
          RemainderYard yard = yard(number, spare, dials);
          check.same("find: " + number + ", " + spare + " spare of " + product, yard.find(5), due);
          check.same("isTrue: " + number + ", " + spare + " spare of " + product, yard.isTrue(5),
              number < main);
          seen[due + 3] = true;
        }
      }
    }
    for (int answer = -3; answer <= 3; answer++) {
      check.same("find: " + answer + " was seen", seen[answer + 3], true);
    }
  }

  /** As the document says it: for each dial, all places of its wheel. */
  private static int foundBySearch(int number, int main, int[] dials) {
    int product = Yards.product(dials).intValue();
    int found = -2;
    for (int i = 0; i < dials.length; i++) {
      boolean can = false;
      for (int other = number % (product / dials[i]); other < product; other += product / dials[i]) {
        can |= other < main;
      }
      if (can) {
        found = found == -2 ? i : -3;
      }
    }
    return number < main ? -1 : found;
  }

  private static void mendTellsItsPlace() {
    RemainderYard yard = yard(104, 1, 3, 5, 7);
    check.same("mend: 'its place then'", yard.mend(5), 0);
    check.numberIs("mend: the row", yard, 5, "14");
    yard = yard(30, 2, 7, 3, 5);
    check.same("mend: 'its place then', the first", yard.mend(5), 0);
    check.numberIs("mend: the row, the first", yard, 5, "0");
  }

  private static void mendToTheLeastNumber() {
    // by 97 free, 5, 11, 17 and so on are true, 5 the least; 95 is at 95, and 96 is wrong
    RemainderYard yard = Check.yard(97, 2, 3);
    yard.setSpare(2);
    for (int place = 0; place < 97; place++) {
      yard = Check.yard(97, 2, 3);
      yard.setSpare(2);
      yard.set(5, 5);
      yard.turn(5, 0, place);
      if (yard.find(5) == 0) {
        check.same("mend: 'of several such places', from " + place, yard.mend(5), 5);
        check.numberIs("mend: 'by which its number is the least', from " + place, yard, 5, "5");
      } else {
        check.same("mend: true or not by one wheel alone, " + place, yard.find(5) == -1
            || yard.find(5) == -3, true);
      }
    }
  }

  private static void mendToTheLeastNumberNotPlace() {
    // 63 by 5, 11, 2 and 3: by 11 free, 3 and 33 are below 55, at the places 3 and 0
    RemainderYard yard = yard(63, 2, 5, 11, 2, 3);
    check.same("mend: two places, find", yard.find(5), 1);
    check.same("mend: 'that by which its number is the least', not the least place", yard.mend(5), 3);
    check.numberIs("mend: 'that by which its number is the least'", yard, 5, "3");
    // 85 by 5, 17, 2 and 3: by 17 free, 25 and 55 are below 85, at the places 8 and 4
    yard = yard(85, 2, 5, 17, 2, 3);
    check.same("mend: two places once more, find", yard.find(5), 1);
    check.same("mend: 'that by which its number is the least', not the least place", yard.mend(5), 8);
    check.numberIs("mend: 'that by which its number is the least'", yard, 5, "25");
    // 122 by 5, 23, 2 and 3: 2, 32, 62 and 92, at the places 2, 9, 16 and 0
    yard = yard(122, 2, 5, 23, 2, 3);
    check.same("mend: four places", yard.mend(5), 2);
    check.numberIs("mend: four places", yard, 5, "2");
  }

  private static void mendEachRow() {
    int several = 0;
    for (int[] dials : YARDS) {
      int product = Yards.product(dials).intValue();
      for (int spare = 0; spare <= dials.length; spare++) {
        int main = Yards.product(java.util.Arrays.copyOf(dials, dials.length - spare)).intValue();
        for (int number = 0; number < product; number++) {
          int wheel = found(number, main, dials);
          RemainderYard yard = yard(number, spare, dials);
          Object got = Check.outcome(yard, x -> x.mend(5));
          String what = "mend: " + number + ", " + spare + " spare of " + product;
          if (wheel < 0) {
            check.same(what, got, Yards.NONE);
            check.same(what + ", the row stays", Yards.number(yard, 5).intValue(), number);
            continue;
          }
          int due = least(number, wheel, main, dials);
          several += due + product / dials[wheel] < main ? 1 : 0;
          check.same(what, got, due % dials[wheel]);
          check.same(what + ", the row", Yards.number(yard, 5).intValue(), due);
          check.same(what + ", it is true", yard.isTrue(5), true);
          check.same(what + ", undo()", Check.outcome(yard, x -> x.undo()), 5);
          check.same(what + ", the row behind it", Yards.number(yard, 5).intValue(), number);
        }
      }
    }
    check.same("mend: several places were seen", several > 10, true);
  }

  private static void mendWhatWasTurned() {
    int[] dials = {2, 3, 5, 7};
    for (int number = 0; number < 6; number++) {
      for (int i = 0; i < 4; i++) {
        for (int place = 0; place < dials[i]; place++) {
          RemainderYard yard = yard(number, 2, dials);
          yard.turn(5, i, place);
          boolean same = place == number % dials[i];
          check.same("'a true row of which one wheel is turned': find", yard.find(5), same ? -1 : i);
          check.same("'a true row of which one wheel is turned': mend",
              Check.outcome(yard, x -> x.mend(5)), same ? Yards.NONE : (Object) (number % dials[i]));
          check.same("'is mended to what it was'", Yards.number(yard, 5).intValue(), number);
        }
      }
    }
  }

  private static void mendGreatOnes() {
    int[] dials = {9901, 9907, 9923, 9929, 9931, 9941, 9949, 9967, 9973, 9999};
    BigInteger main = Yards.product(java.util.Arrays.copyOf(dials, 8));
    for (BigInteger number : new BigInteger[] {BigInteger.ZERO, main.subtract(BigInteger.ONE)}) {
      for (int i = 0; i < 10; i++) {
        RemainderYard yard = Check.yard(dials);
        yard.setSpare(2);
        Yards.put(yard, 5, number);
        int was = yard.wheel(5, i);
        yard.turn(5, i, (was + 1) % dials[i]);
        check.same("'is mended to what it was': great dials, find", yard.find(5), i);
        check.same("'is mended to what it was': great dials, mend", yard.mend(5), was);
        check.same("'is mended to what it was': great dials", Yards.number(yard, 5), number);
      }
    }
  }

  private static void mendOnce() {
    RemainderYard yard = yard(104, 1, 3, 5, 7);
    yard.mend(5);
    check.same("mend: 'if find() tells no dial', it is true now", Check.outcome(yard, x -> x.mend(5)),
        Yards.NONE);
    check.same("mend: the first is kept", yard.undo(), 5);
    check.same("mend: and can be done again", Check.outcome(yard, x -> x.mend(5)), 0);
  }
}
