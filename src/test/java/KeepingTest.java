import java.util.ArrayDeque;
import java.util.LinkedHashMap;
import java.util.List;
import java.util.Map;

/** The paragraph Keeping of the Terms, and promise 19: each sentence by itself. */
public final class KeepingTest {
  private static final Check check = new Check("KeepingTest");

  public static void main(String[] args) {
    check.all(KeepingTest.class);
  }

  /**
   * By 3, 5, 7 and 11, two of them spare: row 0 is 0, row 1 is 1, row 2 is 178, false by its third
   * wheel alone, row 3 is 100, and rows 4 to 11 are 4, 8, 16 and so on. The latest call kept ahead
   * of all is that of row 11.
   */
  private static RemainderYard busy() {
    RemainderYard yard = Check.yard(3, 5, 7, 11);
    yard.setSpare(2);
    yard.set(1, 1);
    yard.set(2, 178);
    yard.set(3, 100);
    for (int row = 4; row < 12; row++) {
      yard.set(row, 1L << row - 2);
    }
    yard.meet(2, 9);
    Check.type(yard, "17");
    return yard;
  }

  private static Map<String, Check.Call> changes() {
    Map<String, Check.Call> calls = new LinkedHashMap<>();
    calls.put("set", x -> x.set(2, 99));
    calls.put("read", x -> x.read(2));
    calls.put("turn", x -> x.turn(2, 3, 0));
    calls.put("copy", x -> x.copy(2, 3));
    calls.put("add", x -> x.add(2, 3, 4));
    calls.put("subtract", x -> x.subtract(2, 3, 4));
    calls.put("multiply", x -> x.multiply(2, 3, 4));
    calls.put("power", x -> x.power(2, 3, 2));
    calls.put("power, 0", x -> x.power(2, 3, 0));
    calls.put("power, below 0", x -> x.power(2, 4, -3));
    calls.put("inverse", x -> x.inverse(2, 4));
    calls.put("divide", x -> x.divide(2, 3, 4));
    calls.put("divideBy", x -> x.divideBy(2, 3, 1));
    calls.put("determinant", x -> x.determinant(2, 3));
    calls.put("polynomial", x -> x.polynomial(2, 3, 4, 5));
    calls.put("mend", x -> x.mend(2));
    calls.put("setFraction", x -> x.setFraction(2, 13, 8));
    return calls;
  }

  private static void eachCallThatLetsARowBecome() {
    changes().forEach((name, call) -> {
      String what = "'keeps what it was ahead of it': " + name;
      RemainderYard yard = busy();
      String before = Yards.row(yard, 2);
      Object answer = Check.outcome(yard, call);
      check.same(what + " throws", answer instanceof Class, false);
      check.same(what + " changes the row", Yards.row(yard, 2).equals(before), false);
      check.same(what + ", undo()", Check.outcome(yard, x -> x.undo()), 2);
      check.same(what + ", the row behind it", Yards.row(yard, 2), before);
      check.keeps(what + ", just once", KeepingTest::busy, call, 2);
    });
  }

  /** Where twelve are kept, each such call is one more, so that the oldest one is forgotten. */
  private static void eachCallWhereTwelveAreKept() {
    changes().forEach((name, call) -> {
      String what = "'the oldest one being forgotten', by " + name;
      RemainderYard yard = busy();
      yard.turn(0, 0, 0);
      Object answer = Check.outcome(yard, call);
      check.same(what + " throws", answer instanceof Class, false);
      check.same(what, undoAll(yard), "2 0 11 10 9 8 7 6 5 4 3 2");
      check.same(what + ": what the forgotten one was ahead of stays", Yards.row(yard, 1), "1 1 1 1");
    });
  }

  /** All calls but those fifteen: none is kept, whatever it answers. */
  private static void noOtherCallIsKept() {
    Check.Call[] calls = {x -> x.clash(9), x -> x.setSpare(1), x -> x.dials(), x -> x.dialAt(1),
        x -> x.product(), x -> x.type('5'), x -> x.erase(), x -> x.signAt(0), x -> x.tell(2),
        x -> x.tellSigned(2), x -> x.wheel(2, 0), x -> x.digit(2, 0), x -> x.compare(2, 3),
        x -> x.sign(2), x -> x.isOver(2, 3, '+'), x -> x.isOver(2, 3, '*'), x -> x.isEnough(2),
        x -> x.isTrue(2), x -> x.find(2), x -> x.fraction(2), x -> x.told(2, 15), x -> x.open(1),
        x -> x.meet(1, 5), x -> x.apart(), x -> x.meeting(), x -> x.period(), x -> x.forget(),
        x -> x.checksum(), x -> x.isSound()};
    for (int i = 0; i < calls.length; i++) {
      RemainderYard yard = busy();
      yard.turn(0, 0, 0);
      String rows = Check.wheelsOf(yard);
      Check.outcome(yard, calls[i]);
      check.same("'each call that lets a row become': no other, rows of " + i, Check.wheelsOf(yard), rows);
      check.same("'each call that lets a row become': no other, " + i, undoAll(yard),
          "0 11 10 9 8 7 6 5 4 3 2 1");
    }
  }

  private static void alsoIfItBecomesTheSame() {
    Map<String, Check.Call> calls = new LinkedHashMap<>();
    calls.put("set", x -> x.set(3, 100));
    calls.put("set, a multiple more", x -> x.set(3, 100 + 1155));
    calls.put("turn", x -> x.turn(3, 2, 2));
    calls.put("copy", x -> x.copy(3, 3));
    calls.put("add", x -> x.add(3, 3, 0));
    calls.put("subtract", x -> x.subtract(3, 3, 0));
    calls.put("multiply", x -> x.multiply(3, 1, 3));
    calls.put("power", x -> x.power(3, 3, 1));
    calls.put("divide", x -> x.divide(3, 3, 1));
    calls.put("polynomial", x -> x.polynomial(3, 3, 1, 3));
    calls.put("setFraction", x -> x.setFraction(3, 200, 2));
    calls.forEach((name, call) ->
        check.keeps("'also if it becomes the same': " + name, KeepingTest::busy, call, 3));
    calls.clear();
    calls.put("power, below 0", x -> x.power(1, 1, -1));
    calls.put("power, 0", x -> x.power(1, 1, 0));
    calls.put("inverse", x -> x.inverse(1, 1));
    calls.forEach((name, call) ->
        check.keeps("'also if it becomes the same': " + name, KeepingTest::busy, call, 1));
    check.keeps("'also if it becomes the same': divideBy", KeepingTest::busy,
        x -> x.divideBy(0, 0, 1), 0);
    check.keeps("'also if it becomes the same': determinant", RemainderYard::new,
        x -> x.determinant(0, 0), 0);
    check.keeps("'also if it becomes the same': determinant of zeros", () -> Check.yard(3, 5),
        x -> x.determinant(9, 0), 9);
    check.keeps("'also if it becomes the same': read", () -> {
      RemainderYard yard = busy();
      yard.tell(3);
      return yard;
    }, x -> x.read(3), 3);
  }

  private static void answersChangeNothing() {
    Check.Call[] calls = {x -> x.clash(10), x -> x.clash(31), x -> x.dials(), x -> x.dialAt(0),
        x -> x.signAt(0), x -> x.wheel(2, 0), x -> x.digit(2, 3), x -> x.compare(1, 2),
        x -> x.compare(2, 1), x -> x.sign(1), x -> x.sign(2), x -> x.isOver(1, 2, '+'),
        x -> x.isOver(2, 3, '*'), x -> x.isEnough(0), x -> x.isEnough(2), x -> x.isTrue(1),
        x -> x.isTrue(2), x -> x.find(1), x -> x.find(2), x -> x.find(3), x -> x.apart(),
        x -> x.checksum(), x -> x.isSound()};
    for (Check.Maker maker : List.<Check.Maker>of(KeepingTest::busy, Yards::crowded, Yards::full)) {
      for (int i = 0; i < calls.length; i++) {
        RemainderYard yard = maker.make();
        Object answer = Check.outcome(yard, calls[i]);
        check.same("a call that answers alone, " + i + ", throws", answer instanceof Class, false);
        check.sameState("a call that answers alone, " + i, yard, maker.make());
      }
    }
  }

  private static void answersLeaveAnEmptyText() {
    Check.Call[] calls = {x -> x.clash(10), x -> x.dials(), x -> x.dialAt(0), x -> x.wheel(2, 0),
        x -> x.digit(2, 3), x -> x.compare(1, 2), x -> x.sign(2), x -> x.isOver(1, 2, '+'),
        x -> x.isEnough(0), x -> x.isTrue(2), x -> x.find(2), x -> x.apart(), x -> x.checksum(),
        x -> x.isSound()};
    for (int i = 0; i < calls.length; i++) {
      RemainderYard yard = busy();
      yard.erase();
      Check.outcome(yard, calls[i]);
      check.textIs("a call that answers alone, with an empty text, " + i, yard, "");
    }
  }

  /** All that there is but the text, which is another one then. */
  private static String besideTheText(RemainderYard yard) {
    StringBuilder state = new StringBuilder(Check.wheelsOf(yard));
    state.append(", kept ").append(undoAll(yard)).append(", then ").append(Check.wheelsOf(yard));
    yard.period();
    state.append(", period ").append(Check.textOf(yard)).append(", apart ").append(yard.apart());
    Check.outcome(yard, x -> x.meeting());
    state.append(", meeting or period ").append(Check.textOf(yard));
    state.append(", spare ").append(yard.setSpare(0)).append(", conditions ").append(yard.forget());
    return state.toString();
  }

  private static void callsOfTheTextChangeItAlone() {
    Check.Call[] calls = {x -> x.product(), x -> x.type('1'), x -> x.erase(), x -> x.tell(1),
        x -> x.tellSigned(2), x -> x.fraction(1), x -> x.told(2, 5), x -> x.open(2), x -> x.open(4),
        x -> x.meeting(), x -> x.period()};
    for (Check.Maker maker : List.<Check.Maker>of(KeepingTest::busy, Yards::crowded, Yards::full)) {
      for (int i = 0; i < calls.length; i++) {
        RemainderYard yard = maker.make();
        Check.outcome(yard, calls[i]);
        check.same("a call of the text, " + i, besideTheText(yard), besideTheText(maker.make()));
      }
    }
  }

  /** Conditions and spare dials change, but no row, and what is kept stays. */
  private static void conditionsAndSpareDialsKeepNothing() {
    Check.Call[] calls = {x -> x.setSpare(1), x -> x.setSpare(4), x -> x.meet(1, 2), x -> x.forget()};
    for (int i = 0; i < calls.length; i++) {
      RemainderYard yard = busy();
      String before = Check.wheelsOf(yard);
      Check.outcome(yard, calls[i]);
      check.same("a call of conditions or spare dials, " + i, Check.wheelsOf(yard), before);
      check.textIs("a call of conditions or spare dials, " + i, yard, "17");
      check.same("a call of conditions or spare dials, " + i + ", undo()", undoAll(yard),
          "11 10 9 8 7 6 5 4 3 2 1");
    }
  }

  /** The rows that undo() tells, until no call is kept. */
  private static String undoAll(RemainderYard yard) {
    StringBuilder rows = new StringBuilder();
    for (int i = 0; i < 20; i++) {
      Object row = Check.outcome(yard, x -> x.undo());
      if (row instanceof Class) {
        check.same("undo() with no call kept", row, Yards.NONE);
        return rows.toString();
      }
      rows.append(i == 0 ? "" : " ").append(row);
    }
    return rows.toString();
  }

  private static void atMostTwelve() {
    for (int many = 0; many <= 14; many++) {
      RemainderYard yard = Check.yard(101);
      for (int i = 1; i <= many; i++) {
        yard.set(i % 12, i);
      }
      StringBuilder due = new StringBuilder();
      for (int i = many; i > Math.max(0, many - 12); i--) {
        due.append(i == many ? "" : " ").append(i % 12);
      }
      check.same("'at most twelve of these': " + many, undoAll(yard), due.toString());
    }
  }

  private static void theOldestOneIsForgotten() {
    for (int many = 12; many <= 30; many++) {
      RemainderYard yard = Check.yard(101);
      for (int i = 1; i <= many; i++) {
        yard.set(0, i);
      }
      undoAll(yard);
      check.same("'the oldest one being forgotten': " + many + " calls", yard.wheel(0, 0), many - 12);
    }
  }

  private static void theRingGoesRound() {
    RemainderYard yard = Check.yard(1009);
    ArrayDeque<int[]> kept = new ArrayDeque<>();
    int[] rows = new int[12];
    int[] rounds = {7, -5, 9, -3, 20, -12, 13, -4, 1, -1, 12, -2, 5, -20};
    int value = 0;
    for (int round : rounds) {
      for (int i = 0; i < round; i++) {
        value++;
        int row = value * 5 % 12;
        kept.addLast(new int[] {row, rows[row]});
        if (kept.size() > 12) {
          kept.removeFirst();
        }
        rows[row] = value;
        yard.set(row, value);
      }
      for (int i = 0; i > round; i--) {
        int[] latest = kept.pollLast();
        check.same("twelve kept, again and again", Check.outcome(yard, x -> x.undo()),
            latest == null ? Yards.NONE : (Object) latest[0]);
        if (latest != null) {
          rows[latest[0]] = latest[1];
          check.same("twelve kept, again and again: the row", yard.wheel(latest[0], 0), latest[1]);
        }
      }
    }
  }

  private static void dialComesAllAreForgotten() {
    RemainderYard yard = busy();
    yard.addDial(13);
    check.same("'when a dial comes, all are forgotten'", undoAll(yard), "");
    yard.set(4, 1);
    check.same("'when a dial comes, all are forgotten': those behind it are not", undoAll(yard), "4");
    RemainderYard first = new RemainderYard();
    first.set(3, 5);
    first.addDial(7);
    check.same("'when a dial comes, all are forgotten': the first dial", undoAll(first), "");
  }

  private static void dialGoesAllAreForgotten() {
    for (int index = 0; index < 4; index++) {
      RemainderYard yard = busy();
      yard.dropDial(index);
      check.same("'or goes, all are forgotten': " + index, undoAll(yard), "");
      yard.set(4, 1);
      check.same("'or goes, all are forgotten': those behind it are not", undoAll(yard), "4");
    }
    RemainderYard last = Check.yard(7);
    last.set(3, 5);
    last.dropDial(0);
    check.same("'or goes, all are forgotten': the last dial", undoAll(last), "");
  }

  private static void refusedDialForgetsNone() {
    Check.Call[] calls = {x -> x.addDial(1), x -> x.addDial(10000), x -> x.addDial(9), x -> x.dropDial(4),
        x -> x.dropDial(-1), x -> x.dialAt(4), x -> x.setSpare(5)};
    for (int i = 0; i < calls.length; i++) {
      RemainderYard yard = busy();
      check.same("a refused dial, " + i, Check.outcome(yard, calls[i]) instanceof Class, true);
      check.same("a refused dial forgets none, " + i, undoAll(yard), "11 10 9 8 7 6 5 4 3 2 1");
    }
    RemainderYard ten = Check.yard(Yards.PRIMES);
    ten.set(6, 5);
    check.same("an eleventh dial", Check.outcome(ten, x -> x.addDial(31)), Yards.FULL);
    check.same("an eleventh dial forgets none", undoAll(ten), "6");
  }

  private static void refusedCallIsNotKept() {
    Check.Call[] calls = {x -> x.set(12, 1), x -> x.turn(3, 0, 3), x -> x.turn(3, 4, 0),
        x -> x.copy(3, 12), x -> x.add(3, 3, 12), x -> x.subtract(3, 12, 3), x -> x.multiply(3, 3, -1),
        x -> x.power(3, 0, -1), x -> x.power(3, 12, 1), x -> x.inverse(3, 0), x -> x.inverse(3, 12),
        x -> x.divide(3, 3, 0), x -> x.divideBy(3, 3, 4), x -> x.determinant(3, 4),
        x -> x.polynomial(3, 3, 0, 3), x -> x.polynomial(3, 7, 6, 3), x -> x.mend(1), x -> x.mend(3),
        x -> x.setFraction(3, 1, 0), x -> x.setFraction(3, 1, 77)};
    for (int i = 0; i < calls.length; i++) {
      RemainderYard yard = busy();
      check.same("a refused call, " + i, Check.outcome(yard, calls[i]) instanceof Class, true);
      check.same("a refused call is not kept, " + i, undoAll(yard), "11 10 9 8 7 6 5 4 3 2 1");
    }
    RemainderYard yard = busy();
    yard.type('x');
    check.same("a refused read", Check.outcome(yard, x -> x.read(3)), Yards.NO_NUMBER);
    check.same("a refused read is not kept", undoAll(yard), "11 10 9 8 7 6 5 4 3 2 1");
  }

  private static void textIsNotKept() {
    RemainderYard yard = busy();
    yard.set(3, 5);
    yard.type('5');
    yard.undo();
    check.textIs("'text is not kept'", yard, "175");
    yard.set(3, 5);
    yard.erase();
    yard.undo();
    check.textIs("'text is not kept': erased", yard, "");
    yard.set(3, 5);
    yard.tell(3);
    yard.undo();
    check.textIs("'text is not kept': a number", yard, "5");
  }

  private static void readTextDoesNotComeBack() {
    RemainderYard yard = busy();
    yard.read(3);
    check.same("read and undo()", yard.undo(), 3);
    check.numberIs("read and undo(): the row", yard, 3, "100");
    check.textIs("read and undo(): 'text is not kept'", yard, "");
  }

  private static void conditionsAreNotKept() {
    RemainderYard yard = busy();
    yard.set(3, 5);
    yard.meet(1, 2);
    yard.undo();
    check.same("'conditions are not kept': one has come", yard.forget(), 2);
    yard.set(3, 5);
    yard.meet(1, 2);
    yard.forget();
    yard.undo();
    check.same("'conditions are not kept': all have gone", yard.forget(), 0);
  }

  private static void spareDialsAreNotKept() {
    RemainderYard yard = busy();
    yard.set(3, 5);
    yard.setSpare(4);
    yard.undo();
    check.same("'spare dials are not kept'", yard.setSpare(0), 4);
    yard.set(3, 5);
    yard.undo();
    check.same("'spare dials are not kept': none", yard.setSpare(2), 0);
  }

  private static void undoIsNotKept() {
    RemainderYard yard = Check.yard(11);
    yard.set(2, 3);
    yard.set(2, 4);
    yard.undo();
    check.same("'that call is kept no longer'", yard.undo(), 2);
    check.same("'that call is kept no longer': the row", yard.wheel(2, 0), 0);
    check.same("'that call is kept no longer': none is left", undoAll(yard), "");
    yard.set(5, 1);
    check.same("'that call is kept no longer': nor behind another", undoAll(yard), "5");
  }

  private static void undoTellsTheRow() {
    for (int row = 0; row < 12; row++) {
      RemainderYard yard = Check.yard(3, 5);
      int asked = row;
      yard.set(row, 7);
      check.same("undo 'returns the row': " + row, Check.outcome(yard, x -> x.undo()), asked);
      check.same("undo: the row is again what it was", Yards.row(yard, row), "0 0");
    }
    RemainderYard yard = Check.yard(3, 5);
    yard.set(1, 7);
    yard.add(8, 1, 1);
    yard.set(1, 2);
    yard.undo();
    check.same("undo: other rows stay", Yards.row(yard, 8), "2 4");
    check.same("undo: the latest alone", Yards.row(yard, 1), "1 2");
  }

  private static void undoWithoutCalls() {
    check.refuses("undo 'if no call is kept': a new yard", RemainderYard::new, x -> x.undo(), Yards.NONE);
    check.refuses("undo 'if no call is kept': new dials", () -> Check.yard(3, 5), x -> x.undo(),
        Yards.NONE);
    check.refuses("undo 'if no call is kept': all given back", () -> {
      RemainderYard yard = busy();
      undoAll(yard);
      return yard;
    }, x -> x.undo(), Yards.NONE);
  }

  private static void undoAllOfOneRow() {
    RemainderYard yard = Check.yard(3, 5, 7, 11);
    Check.type(yard, "17");
    String[] was = new String[12];
    Check.Call[] calls = {x -> x.set(2, 178), x -> x.read(2), x -> x.turn(2, 3, 1), x -> x.copy(2, 2),
        x -> x.add(2, 2, 2), x -> x.multiply(2, 2, 2), x -> x.power(2, 2, 3), x -> x.subtract(2, 3, 2),
        x -> x.setFraction(2, 13, 8), x -> x.inverse(2, 2), x -> x.divideBy(2, 2, 2),
        x -> x.polynomial(2, 2, 3, 2)};
    for (int i = 0; i < 12; i++) {
      was[i] = Yards.row(yard, 2);
      check.same("twelve calls on one row, " + i, Check.outcome(yard, calls[i]) instanceof Class, false);
    }
    for (int i = 11; i >= 0; i--) {
      check.same("twelve calls on one row, undo()", Check.outcome(yard, x -> x.undo()), 2);
      check.same("twelve calls on one row, ahead of call " + i, Yards.row(yard, 2), was[i]);
    }
    check.same("twelve calls on one row: no more", undoAll(yard), "");
  }

  private static void undoWithoutDials() {
    RemainderYard yard = new RemainderYard();
    for (int row = 0; row < 12; row++) {
      yard.set(row, 5);
    }
    check.same("calls without dials are kept too", undoAll(yard), "11 10 9 8 7 6 5 4 3 2 1 0");
  }
}
