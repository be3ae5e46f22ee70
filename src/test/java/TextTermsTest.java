import java.math.BigInteger;
import java.util.LinkedHashMap;
import java.util.Map;

/** The paragraph The text of the Terms, and promises 9 to 11 and 13 at their bounds. */
public final class TextTermsTest {
  private static final Check check = new Check("TextTermsTest");

  public static void main(String[] args) {
    check.all(TextTermsTest.class);
  }

  private static void emptyAtFirst() {
    RemainderYard yard = new RemainderYard();
    check.same("'empty at first': signAt(0)", Check.outcome(yard, x -> x.signAt(0)), Yards.RANGE);
    check.same("'empty at first': erase()", yard.erase(), 0);
    check.same("'empty at first': the first sign", yard.type('a'), 1);
  }

  private static void atMost80Signs() {
    RemainderYard yard = new RemainderYard();
    for (int i = 1; i <= 80; i++) {
      check.same("'at most 80 signs': sign " + i, Check.outcome(yard, x -> x.type('7')), i);
    }
    check.same("'at most 80 signs': sign 81", Check.outcome(yard, x -> x.type('8')), Yards.FULL);
    check.textIs("'at most 80 signs'", yard, "7".repeat(80));
    yard.erase();
    check.same("'at most 80 signs': empty again", Check.outcome(yard, x -> x.type('8')), 1);
  }

  private static void codes32To126() {
    for (int code = 0; code < 300; code++) {
      Object due = code >= 32 && code <= 126 ? (Object) 1 : Yards.RANGE;
      char sign = (char) code;
      RemainderYard yard = new RemainderYard();
      check.same("'of the codes 32 to 126': " + code, Check.outcome(yard, x -> x.type(sign)), due);
      check.textIs("'of the codes 32 to 126': " + code, yard, due.equals(1) ? "" + sign : "");
    }
    for (char sign : new char[] {8364, 32768, 65535, 288, 304}) {
      check.same("'of the codes 32 to 126': " + (int) sign,
          Check.outcome(new RemainderYard(), x -> x.type(sign)), Yards.RANGE);
    }
  }

  private static void placesOfTheText() {
    for (int length : new int[] {0, 1, 2, 79, 80}) {
      RemainderYard yard = new RemainderYard();
      for (int i = 0; i < length; i++) {
        yard.type((char) (' ' + i));
      }
      String what = "signAt with " + length + " signs: ";
      for (int i = 0; i < length; i++) {
        check.same(what + i, yard.signAt(i), (char) (' ' + i));
      }
      for (int place : new int[] {-1, length, length + 1, Integer.MAX_VALUE, Integer.MIN_VALUE}) {
        check.same(what + place, Check.outcome(yard, x -> x.signAt(place)), Yards.RANGE);
      }
    }
    RemainderYard shorter = new RemainderYard();
    Check.type(shorter, "longer");
    shorter.period();
    check.same("signAt behind a number that is shorter than the text was",
        Check.outcome(shorter, x -> x.signAt(1)), Yards.RANGE);
  }

  private static void eraseTellsHowMany() {
    for (int length : new int[] {0, 1, 79, 80}) {
      RemainderYard yard = new RemainderYard();
      Check.type(yard, "y".repeat(length));
      check.same("erase: 'how many signs it had', " + length, yard.erase(), length);
      check.same("erase: none is left", yard.erase(), 0);
      check.same("erase: no sign is left", Check.outcome(yard, x -> x.signAt(0)), Yards.RANGE);
    }
  }

  /** Dials 3, 5, 7, row 0 is 104 and row 1 is 53; a condition 3 by 8. */
  private static RemainderYard told(String text) {
    RemainderYard yard = Check.yard(3, 5, 7);
    yard.set(0, 104);
    yard.set(1, 53);
    yard.meet(3, 8);
    Check.type(yard, text);
    return yard;
  }

  private static void numberInPlaceOfWhatItWas() {
    Map<String, Check.Call> calls = new LinkedHashMap<>();
    calls.put("105", x -> x.product());
    calls.put("104", x -> x.tell(0));
    calls.put("-52", x -> x.tellSigned(1));
    calls.put("8", x -> x.told(1, 3));
    calls.put("2", x -> x.open(2));
    calls.put("3", x -> x.meeting());
    calls.put("8 ", x -> x.period());
    for (String text : new String[] {"", "12", "x".repeat(80), "9".repeat(79)}) {
      calls.forEach((due, call) -> {
        RemainderYard yard = told(text);
        String what = "'in place of what it was', '" + text + "': ";
        check.same(what + "the answer", call.on(yard), due.trim().length());
        check.textIs(what + due, yard, due.trim());
      });
    }
  }

  private static void fractionInPlaceOfWhatItWas() {
    for (String text : new String[] {"", "12", "x".repeat(80)}) {
      RemainderYard yard = told(text);
      check.tells("fraction 'into the text', '" + text + "'", yard, yard.fraction(1), "1/2");
      yard.setFraction(2, -3, 4);
      check.tells("fraction 'into the text', once more", yard, yard.fraction(2), "-3/4");
    }
  }

  private static void otherCallsLeaveTheText() {
    Check.Call[] calls = {x -> x.addDial(11), x -> x.clash(10), x -> x.dropDial(0), x -> x.setSpare(1),
        x -> x.dials(), x -> x.dialAt(0), x -> x.signAt(0), x -> x.set(0, 5), x -> x.wheel(0, 0),
        x -> x.turn(0, 0, 1), x -> x.copy(0, 1), x -> x.undo(), x -> x.add(0, 1, 2),
        x -> x.subtract(0, 1, 2), x -> x.multiply(0, 1, 2), x -> x.power(0, 1, 2),
        x -> x.power(0, 1, -2), x -> x.inverse(0, 1), x -> x.divide(0, 2, 1),
        x -> x.divideBy(0, 1, 0), x -> x.determinant(0, 1), x -> x.polynomial(0, 1, 2, 3),
        x -> x.digit(0, 0), x -> x.compare(0, 1), x -> x.sign(0), x -> x.isOver(0, 1, '+'),
        x -> x.isOver(0, 1, '*'), x -> x.isEnough(0), x -> x.isTrue(0), x -> x.find(0),
        x -> x.setFraction(0, 1, 2), x -> x.meet(1, 2), x -> x.apart(), x -> x.forget(),
        x -> x.checksum(), x -> x.isSound()};
    for (String text : new String[] {"what stays", "7", "-104", "/".repeat(80)}) {
      for (int i = 0; i < calls.length; i++) {
        RemainderYard yard = told(text);
        Object got = Check.outcome(yard, calls[i]);
        check.same("a call that tells no number, " + i, got instanceof Class, false);
        check.textIs("a call that tells no number, " + i, yard, text);
      }
    }
    RemainderYard yard = Check.yard(3, 5, 7);
    yard.setSpare(1);
    yard.set(0, 104);
    Check.type(yard, "what stays");
    yard.mend(0);
    check.textIs("a call that tells no number, mend", yard, "what stays");
  }

  private static void noZeroAheadOfOthers() {
    String[] numbers = {"1", "10", "99", "100", "999999999", "1000000000", "1000000001",
        "999999999999999999", "1000000000000000000", "1000000000000000001", "2000000000000000000",
        "10000000000000000000000000000000000000", "100000000000000000000000000000000000000",
        "100000000000000000000000000000000000009", "123000000000000000456000000000000000789"};
    for (String number : numbers) {
      RemainderYard yard = Check.yard(Yards.GREAT);
      Yards.put(yard, 0, new BigInteger(number));
      check.tells("'no 0 ahead of others': tell " + number, yard, yard.tell(0), number);
      check.tells("'no 0 ahead of others': told " + number, yard, yard.told(0, 1023), number);
      Yards.put(yard, 0, new BigInteger(number).negate());
      check.tells("'no 0 ahead of others': tellSigned -" + number, yard, yard.tellSigned(0), "-" + number);
    }
  }

  private static void eachCountOfDigits() {
    BigInteger ten = BigInteger.ONE;
    for (int digits = 1; digits <= 39; digits++) {
      for (int more = -1; more <= 1; more++) {
        BigInteger number = ten.add(BigInteger.valueOf(more));
        RemainderYard yard = Check.yard(Yards.GREAT);
        Yards.put(yard, 0, number);
        check.tells("a number of " + digits + " digits, " + more, yard, yard.tell(0), number.toString());
      }
      ten = ten.multiply(BigInteger.TEN);
    }
  }

  private static void zeroIsOneSign() {
    RemainderYard yard = Check.yard(9999, 2);
    yard.meet(0, 9999);
    check.tells("0: tell", yard, yard.tell(0), "0");
    check.tells("0: tellSigned", yard, yard.tellSigned(0), "0");
    check.tells("0: told", yard, yard.told(0, 3), "0");
    check.tells("0: told by no wheel", yard, yard.told(0, 0), "0");
    check.tells("0: meeting", yard, yard.meeting(), "0");
    check.tells("0: fraction", yard, yard.fraction(0), "0/1");
    RemainderYard small = Check.yard(9999, 2, 5);
    check.tells("0: open, cut", small, small.open(2), "0");
  }

  private static void minusIfBelowZero() {
    RemainderYard yard = Check.yard(3, 5, 7);
    yard.set(0, -1);
    check.tells("'a - ahead of them if it is below 0': -1", yard, yard.tellSigned(0), "-1");
    check.tells("'a - ahead of them if it is below 0': -1/1", yard, yard.fraction(0), "-1/1");
    yard.set(0, -52);
    check.tells("'a - ahead of them if it is below 0': -52", yard, yard.tellSigned(0), "-52");
    yard.setFraction(0, -1, 4);
    check.tells("'a - ahead of them if it is below 0': -1/4", yard, yard.fraction(0), "-1/4");
    yard.setFraction(0, 1, -4);
    check.tells("'a - ahead of them if it is below 0': 1/-4", yard, yard.fraction(0), "-1/4");
  }

  private static void noMinusIfNotBelowZero() {
    RemainderYard yard = Check.yard(3, 5, 7);
    yard.set(0, 52);
    check.tells("no sign ahead of 52", yard, yard.tellSigned(0), "52");
    yard.set(0, -1);
    check.tells("no sign ahead of 104", yard, yard.tell(0), "104");
    yard.setFraction(0, -1, -4);
    check.tells("no sign ahead of -1/-4", yard, yard.fraction(0), "1/4");
    yard.setFraction(0, 0, -4);
    check.tells("no sign ahead of 0/-4", yard, yard.fraction(0), "0/1");
    yard.erase();
    Check.type(yard, "-0");
    yard.read(0);
    check.tells("no sign ahead of -0", yard, yard.tellSigned(0), "0");
  }

  private static void readTakesItAway() {
    for (String text : new String[] {"0", "-0", "5", "+5", "-5", "105", "9".repeat(80)}) {
      RemainderYard yard = Check.yard(3, 5, 7);
      Check.type(yard, text);
      yard.read(3);
      check.textIs("'read() takes it away': " + text, yard, "");
      check.same("'read() takes it away': not twice", Check.outcome(yard, x -> x.read(3)),
          Yards.NO_NUMBER);
    }
    RemainderYard bare = new RemainderYard();
    Check.type(bare, "12");
    bare.read(0);
    check.textIs("'read() takes it away': without dials", bare, "");
  }

  private static void readLeavesItWithAnException() {
    for (String text : new String[] {"", "-", "5 ", "x".repeat(80)}) {
      RemainderYard yard = Check.yard(3, 5, 7);
      Check.type(yard, text);
      check.same("'but not with an exception'", Check.outcome(yard, x -> x.read(0)), Yards.NO_NUMBER);
      check.textIs("'but not with an exception': no number", yard, text);
    }
    for (int row : Yards.NO_ROWS) {
      RemainderYard yard = Check.yard(3, 5, 7);
      Check.type(yard, "52");
      check.same("'but not with an exception'", Check.outcome(yard, x -> x.read(row)), Yards.ROW);
      check.textIs("'but not with an exception': no row", yard, "52");
      yard.read(0);
      check.numberIs("'but not with an exception': it is read behind it", yard, 0, "52");
    }
  }

  private static Object readOf(String text) {
    RemainderYard yard = Check.yard(9999, 9998, 9997, 9995);
    Check.type(yard, text);
    Object answer = Check.outcome(yard, x -> x.read(0));
    return answer instanceof Class ? answer : Yards.number(yard, 0).toString();
  }

  private static void whatIsANumber() {
    String minus = Yards.product(9999, 9998, 9997, 9995).subtract(BigInteger.valueOf(7)).toString();
    String[][] numbers = {{"7", "7"}, {"+7", "7"}, {"-7", minus}, {"0", "0"}, {"+0", "0"}, {"-0", "0"},
        {"00", "0"}, {"007", "7"}, {"+007", "7"}, {"-007", minus}, {"-00", "0"},
        {"1234567890", "1234567890"}, {"0".repeat(79) + "7", "7"}, {"+" + "0".repeat(78) + "7", "7"},
        {"-" + "0".repeat(78) + "7", minus}};
    for (String[] number : numbers) {
      check.same("'perhaps one + or -, and one digit or more': " + number[0], readOf(number[0]),
          number[1]);
    }
  }

  private static void minusZeroIsItsNumber() {
    for (String text : new String[] {"-0", "+0", "0", "-000", "-" + "0".repeat(79)}) {
      RemainderYard yard = Check.yard(3, 5, 7);
      yard.set(2, 23);
      Check.type(yard, text);
      check.same("read: 'whether that is its number then', " + text, yard.read(2), true);
      check.rowIs("read: " + text, yard, 2, 0, 0, 0);
      RemainderYard bare = new RemainderYard();
      Check.type(bare, text);
      check.same("read: 'whether that is its number then', without dials, " + text, bare.read(2), true);
    }
    for (String text : new String[] {"-1", "-105", "-01", "1", "105"}) {
      RemainderYard bare = new RemainderYard();
      Check.type(bare, text);
      check.same("read: without dials, " + text, bare.read(2), false);
    }
  }

  private static void whatIsNoNumber() {
    String[] texts = {"", "+", "-", "++", "--", "+-", "-+", "++7", "--7", "+-7", "-+7", "7+", "7-",
        "7+7", "7-7", " 7", "7 ", "7 7", "+ 7", "- 7", " +7", ".7", "7.", "7.0", "7,0", "7e1", "0x7",
        "7L", "x", "/", ":", "1/2", "7_0", "'7'", "-".repeat(80), "7".repeat(79) + " ",
        " " + "7".repeat(79)};
    for (String text : texts) {
      check.same("'a text is a number if': '" + text + "' is none", readOf(text), Yards.NO_NUMBER);
    }
  }

  private static void eachSignInANumber() {
    for (char sign = 32; sign <= 126; sign++) {
      boolean digit = sign >= '0' && sign <= '9';
      boolean lead = sign == '+' || sign == '-';
      check.same("'" + sign + "' alone", !(readOf("" + sign) instanceof Class), digit);
      check.same("'" + sign + "' ahead", !(readOf(sign + "5") instanceof Class), digit || lead);
      check.same("'" + sign + "' inside", !(readOf("5" + sign + "5") instanceof Class), digit);
      check.same("'" + sign + "' behind", !(readOf("5" + sign) instanceof Class), digit);
    }
  }

  private static void longestNumbers() {
    String[] texts = {"9".repeat(80), "-" + "9".repeat(79), "+" + "9".repeat(79),
        "1" + "0".repeat(79), "-1" + "0".repeat(78), "12345678901234567890".repeat(4)};
    for (String text : texts) {
      RemainderYard yard = Check.yard(Yards.GREAT);
      Check.type(yard, text);
      check.same("a number of 80 signs", yard.read(2), false);
      check.same("a number of 80 signs: its remainders", Yards.row(yard, 2),
          Yards.remainders(yard, new BigInteger(text)));
    }
  }
}
