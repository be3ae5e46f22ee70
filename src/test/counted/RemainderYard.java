/**
 * The face of the program over a copy of it by the name CountedYard, which .ci/run makes: it stops a
 * test that makes more calls of one object than the document answers for.
 */
public final class RemainderYard {
  private static final int MOST_CALLS = 512;

  private final CountedYard yard = new CountedYard();
  private int calls;

  private CountedYard counted() {
    calls++;
    if (calls > MOST_CALLS) {
      throw new AssertionError("what call " + calls + " of one object answers is free");
    }
    return yard;
  }

  public int addDial(int dial) {
    return counted().addDial(dial);
  }

  public int clash(int dial) {
    return counted().clash(dial);
  }

  public int dropDial(int index) {
    return counted().dropDial(index);
  }

  public int setSpare(int many) {
    return counted().setSpare(many);
  }

  public int dials() {
    return counted().dials();
  }

  public int dialAt(int index) {
    return counted().dialAt(index);
  }

  public int product() {
    return counted().product();
  }

  public int type(char sign) {
    return counted().type(sign);
  }

  public int erase() {
    return counted().erase();
  }

  public char signAt(int place) {
    return counted().signAt(place);
  }

  public boolean set(int row, long number) {
    return counted().set(row, number);
  }

  public boolean read(int row) {
    return counted().read(row);
  }

  public int tell(int row) {
    return counted().tell(row);
  }

  public int tellSigned(int row) {
    return counted().tellSigned(row);
  }

  public int wheel(int row, int index) {
    return counted().wheel(row, index);
  }

  public int turn(int row, int index, int place) {
    return counted().turn(row, index, place);
  }

  public int copy(int row, int from) {
    return counted().copy(row, from);
  }

  public int undo() {
    return counted().undo();
  }

  public int add(int row, int a, int b) {
    return counted().add(row, a, b);
  }

  public int subtract(int row, int a, int b) {
    return counted().subtract(row, a, b);
  }

  public int multiply(int row, int a, int b) {
    return counted().multiply(row, a, b);
  }

  public int power(int row, int a, int exponent) {
    return counted().power(row, a, exponent);
  }

  public int inverse(int row, int a) {
    return counted().inverse(row, a);
  }

  public int divide(int row, int a, int b) {
    return counted().divide(row, a, b);
  }

  public int divideBy(int row, int a, int index) {
    return counted().divideBy(row, a, index);
  }

  public int determinant(int row, int first) {
    return counted().determinant(row, first);
  }

  public int polynomial(int row, int first, int many, int at) {
    return counted().polynomial(row, first, many, at);
  }

  public int digit(int row, int index) {
    return counted().digit(row, index);
  }

  public int compare(int a, int b) {
    return counted().compare(a, b);
  }

  public int sign(int row) {
    return counted().sign(row);
  }

  public boolean isOver(int a, int b, char act) {
    return counted().isOver(a, b, act);
  }

  public boolean isEnough(int first) {
    return counted().isEnough(first);
  }

  public boolean isTrue(int row) {
    return counted().isTrue(row);
  }

  public int find(int row) {
    return counted().find(row);
  }

  public int mend(int row) {
    return counted().mend(row);
  }

  public boolean setFraction(int row, long above, long below) {
    return counted().setFraction(row, above, below);
  }

  public int fraction(int row) {
    return counted().fraction(row);
  }

  public int told(int row, int set) {
    return counted().told(row, set);
  }

  public int open(int k) {
    return counted().open(k);
  }

  public int meet(int number, int dial) {
    return counted().meet(number, dial);
  }

  public int apart() {
    return counted().apart();
  }

  public int meeting() {
    return counted().meeting();
  }

  public int period() {
    return counted().period();
  }

  public int forget() {
    return counted().forget();
  }

  public long checksum() {
    return counted().checksum();
  }

  public boolean isSound() {
    return counted().isSound();
  }
}
