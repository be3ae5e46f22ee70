/** Promises 9 to 11: the text. */
public final class TextTest {
  private static final Class<?> WRONG = IllegalArgumentException.class;
  private static final Class<?> FULL = IllegalStateException.class;
  private static final Check check = new Check("TextTest");

  public static void main(String[] args) {
    type();
    typeRefuses();
    erase();
    signAt();
    check.end();
  }

  private static RemainderYard busy() {
    RemainderYard yard = Check.yard(3, 5, 7);
    yard.set(3, 52);
    Check.type(yard, "abc");
    return yard;
  }

  private static RemainderYard full() {
    RemainderYard yard = busy();
    for (int i = 3; i < 80; i++) {
      yard.type('x');
    }
    return yard;
  }

  private static void type() {
    RemainderYard yard = new RemainderYard();
    for (int code = 32; code <= 110; code++) {
      check.same("9: code " + code, yard.type((char) code), code - 31);
    }
    check.same("9: the 80th sign", yard.type('~'), 80);
    check.same("9: the first", yard.signAt(0), ' ');
    check.same("9: the last", yard.signAt(79), '~');
    RemainderYard told = Check.yard(3, 5, 7);
    told.set(0, 23);
    told.tell(0);
    check.same("9: behind a number", told.type('4'), 3);
    check.textIs("9: behind a number", told, "234");
  }

  private static void typeRefuses() {
    for (int code : new int[] {0, 9, 10, 31, 127, 128, 233, 255, 256, 8364, 65535}) {
      char sign = (char) code;
      check.refuses("9: code " + code, TextTest::busy, x -> x.type(sign), WRONG);
      check.refuses("9: full, code " + code, TextTest::full, x -> x.type(sign), WRONG);
    }
    check.refuses("9: full", TextTest::full, x -> x.type('a'), FULL);
  }

  private static void erase() {
    RemainderYard yard = busy();
    check.same("10: three signs", yard.erase(), 3);
    check.textIs("10: none is left", yard, "");
    check.same("10: none", yard.erase(), 0);
    check.same("10: 80", full().erase(), 80);
    check.same("10: the row stays", yard.wheel(3, 0), 1);
    check.same("10: kept calls stay", yard.undo(), 3);
    Check.type(yard, "de");
    check.textIs("10: typed again", yard, "de");
  }

  private static void signAt() {
    RemainderYard yard = busy();
    check.same("11: the first", yard.signAt(0), 'a');
    check.same("11: the last", yard.signAt(2), 'c');
    for (int place : new int[] {-1, 3, 80, Integer.MAX_VALUE, Integer.MIN_VALUE}) {
      check.refuses("11: place " + place, TextTest::busy, x -> x.signAt(place), WRONG);
    }
    for (int place : new int[] {-1, 80, 81}) {
      check.refuses("11: full, place " + place, TextTest::full, x -> x.signAt(place), WRONG);
    }
    check.refuses("11: an empty text", RemainderYard::new, x -> x.signAt(0), WRONG);
    yard.product();
    check.same("11: of a number", yard.signAt(2), '5');
  }
}
