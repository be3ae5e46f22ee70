import java.util.NoSuchElementException;

/**
 * A yard of rows of wheels: whole numbers that are only their remainders by some dials.
 *
 * <p>All workspace is made with the object and used again, so that a call makes nothing but the
 * exception that it may throw.
 */
public final class RemainderYard {
  private static final int ROWS = 12;
  private static final int MOST_DIALS = 10;
  private static final int LEAST_DIAL = 2;
  private static final int GREATEST_DIAL = 9999;
  private static final int GRID_ROWS = 9;
  private static final int ENOUGH_FACTOR = 12;
  private static final long SUM_START = 7;
  private static final long SUM_FACTOR = 31;
  private static final int MOST_COEFFICIENTS = 6;

  private static final int IS_TRUE = -1;
  private static final int NO_WHEEL = -2;
  private static final int SEVERAL_WHEELS = -3;

  private final Dials dialList = new Dials();
  private final int[][] rows = new int[ROWS][MOST_DIALS];
  private final Keeper keeper = new Keeper();
  private final Text text = new Text();
  private final Conditions conditions = new Conditions();

  private final MixedDigits digits = new MixedDigits();
  private final MixedDigits nextDigits = new MixedDigits();
  private final FractionSearch search = new FractionSearch();
  private final Natural yardProduct = new Natural();
  private final Natural value = new Natural();
  private final Natural otherValue = new Natural();
  private final Natural scratch = new Natural();

  public RemainderYard() {
  }

  // ---- dials

  public int addDial(int dial)
      throws IllegalArgumentException, UnsupportedOperationException, IllegalStateException {
    checkDial(dial);
    if (dialList.firstClash(dial) >= 0) {
      throw new UnsupportedOperationException("a dial has a common divisor with it");
    }
    if (dialList.size() >= MOST_DIALS) {
      throw new IllegalStateException("there are ten dials");
    }
    int index = dialList.size();
    for (int row = 0; row < ROWS; row++) {
      putNumber(row, dialList.allSet(), value);
      rows[row][index] = value.remainderBy(dial);
    }
    dialList.append(dial);
    keeper.dropAll();
    return index;
  }

  public int clash(int dial) throws IllegalArgumentException {
    checkDial(dial);
    return dialList.firstClash(dial);
  }

  public int dropDial(int index) throws NoSuchElementException {
    checkIndex(index);
    int last = dialList.size() - 1;
    for (int row = 0; row < ROWS; row++) {
      for (int i = index; i < last; i++) {
        rows[row][i] = rows[row][i + 1];
      }
    }
    int dial = dialList.at(index);
    dialList.removeAt(index);
    keeper.dropAll();
    return dial;
  }

  public int setSpare(int many) throws IllegalArgumentException {
    if (many < 0 || many > dialList.size()) {
      throw new IllegalArgumentException("there are not so many dials");
    }
    int before = dialList.spare();
    dialList.letSpare(many);
    return before;
  }

  public int dials() {
    return dialList.size();
  }

  public int dialAt(int index) throws NoSuchElementException {
    checkIndex(index);
    return dialList.at(index);
  }

  public int product() {
    dialList.putProduct(dialList.allSet(), value);
    return show(false, value);
  }

  // ---- the text

  public int type(char sign) throws IllegalArgumentException, IllegalStateException {
    if (sign < Text.LEAST_CODE || sign > Text.GREATEST_CODE) {
      throw new IllegalArgumentException("there is no such sign");
    }
    if (text.isFull()) {
      throw new IllegalStateException("the text is full");
    }
    text.append(sign);
    return text.length();
  }

  public int erase() {
    int before = text.length();
    text.clear();
    return before;
  }

  public char signAt(int place) throws IllegalArgumentException {
    if (place < 0 || place >= text.length()) {
      throw new IllegalArgumentException("the text has no such place");
    }
    return text.at(place);
  }

  // ---- rows

  public boolean set(int row, long number) throws IndexOutOfBoundsException {
    checkRow(row);
    keep(row);
    for (int i = 0; i < dialList.size(); i++) {
      settle(row, i, number);
    }
    if (number < 0) {
      return false;
    }
    value.become(number);
    return isBelowAll(value);
  }

  public boolean read(int row) throws IndexOutOfBoundsException, NumberFormatException {
    checkRow(row);
    if (!text.isNumber()) {
      throw new NumberFormatException("the text is no number");
    }
    keep(row);
    text.putValue(value);
    boolean below = text.startsWithMinus() && !value.isZero();
    settleAll(row, value, below);
    text.clear();
    return !below && isBelowAll(value);
  }

  public int tell(int row) throws IndexOutOfBoundsException {
    checkRow(row);
    putNumber(row, dialList.allSet(), value);
    return show(false, value);
  }

  public int tellSigned(int row) throws IndexOutOfBoundsException {
    checkRow(row);
    boolean below = putSigned(row, value);
    return show(below, value);
  }

  public int wheel(int row, int index) throws IndexOutOfBoundsException, NoSuchElementException {
    checkRow(row);
    checkIndex(index);
    return rows[row][index];
  }

  public int turn(int row, int index, int place)
      throws IndexOutOfBoundsException, NoSuchElementException, IllegalArgumentException {
    checkRow(row);
    checkIndex(index);
    if (place < 0 || place >= dialList.at(index)) {
      throw new IllegalArgumentException("the wheel has no such place");
    }
    keep(row);
    int before = rows[row][index];
    rows[row][index] = place;
    return before;
  }

  public int copy(int row, int from) throws IndexOutOfBoundsException {
    checkRow(row);
    checkRow(from);
    keep(row);
    for (int i = 0; i < dialList.size(); i++) {
      rows[row][i] = rows[from][i];
    }
    return wheelsAtZero(row);
  }

  public int undo() throws NoSuchElementException {
    int row = keeper.latestRow();
    if (row < 0 || row >= ROWS) {
      throw new NoSuchElementException("no call is kept");
    }
    keeper.giveBack(rows[row]);
    return row;
  }

  // ---- sums and products

  public int add(int row, int a, int b) throws IndexOutOfBoundsException {
    checkRows(row, a, b);
    keep(row);
    for (int i = 0; i < dialList.size(); i++) {
      settle(row, i, (long) rows[a][i] + rows[b][i]);
    }
    return wheelsAtZero(row);
  }

  public int subtract(int row, int a, int b) throws IndexOutOfBoundsException {
    checkRows(row, a, b);
    keep(row);
    for (int i = 0; i < dialList.size(); i++) {
      settle(row, i, (long) rows[a][i] - rows[b][i]);
    }
    return wheelsAtZero(row);
  }

  public int multiply(int row, int a, int b) throws IndexOutOfBoundsException {
    checkRows(row, a, b);
    keep(row);
    for (int i = 0; i < dialList.size(); i++) {
      settle(row, i, (long) rows[a][i] * rows[b][i]);
    }
    return wheelsAtZero(row);
  }

  public int power(int row, int a, int exponent)
      throws IndexOutOfBoundsException, ArithmeticException {
    checkRow(row);
    checkRow(a);
    if (exponent < 0) {
      checkInverse(a);
    }
    keep(row);
    long without = Math.abs((long) exponent);
    for (int i = 0; i < dialList.size(); i++) {
      int dial = dialList.at(i);
      int base = exponent < 0 ? Residues.inverseOf(rows[a][i], dial) : rows[a][i];
      settle(row, i, Residues.powerOf(base, without, dial));
    }
    return wheelsAtZero(row);
  }

  public int inverse(int row, int a) throws IndexOutOfBoundsException, ArithmeticException {
    checkRow(row);
    checkRow(a);
    checkInverse(a);
    keep(row);
    for (int i = 0; i < dialList.size(); i++) {
      settle(row, i, Residues.inverseOf(rows[a][i], dialList.at(i)));
    }
    return wheelsAtZero(row);
  }

  public int divide(int row, int a, int b) throws IndexOutOfBoundsException, ArithmeticException {
    checkRows(row, a, b);
    checkInverse(b);
    keep(row);
    for (int i = 0; i < dialList.size(); i++) {
      settle(row, i, (long) rows[a][i] * Residues.inverseOf(rows[b][i], dialList.at(i)));
    }
    return wheelsAtZero(row);
  }

  public int divideBy(int row, int a, int index)
      throws IndexOutOfBoundsException, NoSuchElementException {
    checkRow(row);
    checkRow(a);
    checkIndex(index);
    keep(row);
    putNumber(a, dialList.allSet(), value);
    int remainder = value.cut(dialList.at(index));
    settleAll(row, value, false);
    return remainder;
  }

  public int determinant(int row, int first) throws IndexOutOfBoundsException {
    checkRow(row);
    checkRun(first, GRID_ROWS);
    keep(row);
    for (int i = 0; i < dialList.size(); i++) {
      settle(row, i, determinantAt(first, i));
    }
    return wheelsAtZero(row);
  }

  public int polynomial(int row, int first, int many, int at)
      throws IllegalArgumentException, IndexOutOfBoundsException {
    if (many < 1 || many > MOST_COEFFICIENTS) {
      throw new IllegalArgumentException("there cannot be so many coefficients");
    }
    checkRow(row);
    checkRun(first, many);
    checkRow(at);
    keep(row);
    for (int i = 0; i < dialList.size(); i++) {
      settle(row, i, polynomialAt(first, many, rows[at][i], i));
    }
    return wheelsAtZero(row);
  }

  // ---- order

  public int digit(int row, int index) throws IndexOutOfBoundsException, NoSuchElementException {
    checkRow(row);
    checkIndex(index);
    digits.take(rows[row], dialList, dialList.allSet());
    return digits.at(index);
  }

  public int compare(int a, int b) throws IndexOutOfBoundsException {
    checkRow(a);
    checkRow(b);
    digits.take(rows[a], dialList, dialList.allSet());
    nextDigits.take(rows[b], dialList, dialList.allSet());
    return digits.order(nextDigits, dialList.size());
  }

  public int sign(int row) throws IndexOutOfBoundsException {
    checkRow(row);
    if (putSigned(row, value)) {
      return -1;
    }
    return value.isZero() ? 0 : 1;
  }

  public boolean isOver(int a, int b, char act)
      throws IndexOutOfBoundsException, IllegalArgumentException {
    checkRow(a);
    checkRow(b);
    if (act != '+' && act != '*') {
      throw new IllegalArgumentException("there is no such act");
    }
    putNumber(a, dialList.allSet(), value);
    putNumber(b, dialList.allSet(), otherValue);
    if (act == '*') {
      scratch.becomeProduct(value, otherValue);
      return !isBelowAll(scratch);
    }
    value.raiseBy(otherValue, 1);
    return !isBelowAll(value);
  }

  public boolean isEnough(int first) throws IndexOutOfBoundsException {
    checkRun(first, GRID_ROWS);
    Natural greatest = otherValue;
    greatest.become(0);
    for (int row = first; row < first + GRID_ROWS; row++) {
      putSigned(row, value);
      if (value.order(greatest) > 0) {
        greatest.becomeAs(value);
      }
    }
    scratch.becomeProduct(greatest, greatest);
    value.becomeProduct(scratch, greatest);
    value.scale(ENOUGH_FACTOR, 0);
    return isBelowAll(value);
  }

  // ---- false wheels

  public boolean isTrue(int row) throws IndexOutOfBoundsException {
    checkRow(row);
    return isBelowMain(row, dialList.allSet());
  }

  public int find(int row) throws IndexOutOfBoundsException {
    checkRow(row);
    return falseWheel(row);
  }

  public int mend(int row) throws IndexOutOfBoundsException, NoSuchElementException {
    checkRow(row);
    int index = falseWheel(row);
    if (index < 0) {
      throw new NoSuchElementException("no one wheel makes the row false");
    }
    keep(row);
    putNumber(row, setWithout(index), value);
    int place = value.remainderBy(dialList.at(index));
    rows[row][index] = place;
    return place;
  }

  // ---- fractions

  public boolean setFraction(int row, long above, long below)
      throws IndexOutOfBoundsException, ArithmeticException {
    checkRow(row);
    if (below == 0) {
      throw new ArithmeticException("the number below the line is 0");
    }
    for (int i = 0; i < dialList.size(); i++) {
      int dial = dialList.at(i);
      if (Residues.inverseOf(Residues.of(below, dial), dial) == 0) {
        throw new ArithmeticException("a dial has a common divisor with the number below the line");
      }
    }
    keep(row);
    for (int i = 0; i < dialList.size(); i++) {
      int dial = dialList.at(i);
      long factor = Residues.inverseOf(Residues.of(below, dial), dial);
      settle(row, i, factor * Residues.of(above, dial));
    }
    return above % below == 0;
  }

  public int fraction(int row) throws IndexOutOfBoundsException, NoSuchElementException {
    checkRow(row);
    putNumber(row, dialList.allSet(), value);
    if (!hasFraction(value)) {
      throw new NoSuchElementException("no fraction has these remainders");
    }
    show(search.isBelowZero(), search.above());
    text.append('/');
    text.appendNumber(search.below());
    return text.length();
  }

  // ---- shares

  public int told(int row, int set) throws IndexOutOfBoundsException, IllegalArgumentException {
    checkRow(row);
    if (set < 0 || set > dialList.allSet()) {
      throw new IllegalArgumentException("the set has a dial that there is not");
    }
    putNumber(row, set, value);
    return show(false, value);
  }

  public int open(int k) throws IllegalArgumentException {
    int count = dialList.size();
    if (k < 1 || k > count) {
      throw new IllegalArgumentException("there are not so many dials");
    }
    dialList.sort();
    value.become(1);
    for (int i = 0; i < k; i++) {
      value.scale(dialList.sortedAt(i), 0);
    }
    for (int i = count - k + 1; i < count; i++) {
      value.cut(dialList.sortedAt(i));
    }
    return show(false, value);
  }

  // ---- conditions

  public int meet(int number, int dial) throws IllegalArgumentException, IllegalStateException {
    if (dial < 1 || dial > GREATEST_DIAL) {
      throw new IllegalArgumentException("there is no such dial");
    }
    if (conditions.isFull()) {
      throw new IllegalStateException("there are eight conditions");
    }
    conditions.append(number, dial);
    return conditions.size();
  }

  public int apart() {
    return conditions.firstPairApart();
  }

  public int meeting() throws NoSuchElementException {
    if (!conditions.putMeeting(value, scratch)) {
      throw new NoSuchElementException("no number meets all conditions");
    }
    return show(false, value);
  }

  public int period() {
    conditions.putPeriod(value);
    return show(false, value);
  }

  public int forget() {
    int before = conditions.size();
    conditions.clear();
    return before;
  }

  // ---- figures

  public long checksum() {
    long sum = SUM_FACTOR * SUM_START + dialList.spare();
    for (int i = 0; i < dialList.size(); i++) {
      sum = SUM_FACTOR * sum + dialList.at(i);
    }
    for (int row = 0; row < ROWS; row++) {
      for (int i = 0; i < dialList.size(); i++) {
        sum = SUM_FACTOR * sum + rows[row][i];
      }
    }
    for (int i = 0; i < conditions.size(); i++) {
      sum = SUM_FACTOR * sum + conditions.dialOf(i);
      sum = SUM_FACTOR * sum + conditions.remainderOf(i);
    }
    for (int i = 0; i < text.length(); i++) {
      sum = SUM_FACTOR * sum + text.at(i);
    }
    return sum;
  }

  public boolean isSound() {
    if (!dialList.areCoprime()) {
      return false;
    }
    dialList.putProduct(dialList.allSet(), yardProduct);
    for (int row = 0; row < ROWS; row++) {
      putNumber(row, dialList.allSet(), value);
      if (!hasRemainders(row, value) || !isSumOfWheels(row, value)) {
        return false;
      }
      if (!isFractionSound(row, value)) {
        return false;
      }
    }
    return areNeighboursSound() && areConditionsSound();
  }

  // ---- what the calls share

  private static void checkRow(int row) {
    if (row < 0 || row >= ROWS) {
      throw new IndexOutOfBoundsException("there is no such row");
    }
  }

  private static void checkRows(int row, int a, int b) {
    checkRow(row);
    checkRow(a);
    checkRow(b);
  }

  private static void checkRun(int first, int many) {
    // compared by a difference, since first + many may go round
    if (first < 0 || first > ROWS - many) {
      throw new IndexOutOfBoundsException("there is no such row");
    }
  }

  private static void checkDial(int dial) {
    if (dial < LEAST_DIAL || dial > GREATEST_DIAL) {
      throw new IllegalArgumentException("there is no such dial");
    }
  }

  private void checkIndex(int index) {
    if (index < 0 || index >= dialList.size()) {
      throw new NoSuchElementException("there is no such dial");
    }
  }

  private void checkInverse(int row) {
    for (int i = 0; i < dialList.size(); i++) {
      if (Residues.inverseOf(rows[row][i], dialList.at(i)) == 0) {
        throw new ArithmeticException("the row has no inverse");
      }
    }
  }

  private void keep(int row) {
    keeper.keep(row, rows[row]);
  }

  private void settle(int row, int index, long from) {
    rows[row][index] = Residues.of(from, dialList.at(index));
  }

  private void settleAll(int row, Natural from, boolean below) {
    for (int i = 0; i < dialList.size(); i++) {
      long remainder = from.remainderBy(dialList.at(i));
      settle(row, i, below ? -remainder : remainder);
    }
  }

  private int wheelsAtZero(int row) {
    int many = 0;
    for (int i = 0; i < dialList.size(); i++) {
      if (rows[row][i] == 0) {
        many++;
      }
    }
    return many;
  }

  private int show(boolean below, Natural size) {
    text.clear();
    if (below) {
      text.append('-');
    }
    text.appendNumber(size);
    return text.length();
  }

  private int setWithout(int index) {
    return dialList.allSet() & ~(1 << index);
  }

  /** Puts the least number that has the remainders of the wheels of a set. */
  private void putNumber(int row, int set, Natural into) {
    digits.take(rows[row], dialList, set);
    digits.putNumber(dialList, set, into);
  }

  private boolean isBelowAll(Natural what) {
    dialList.putProduct(dialList.allSet(), yardProduct);
    return what.order(yardProduct) < 0;
  }

  /** Puts the signed number without its sign, and answers whether it is below 0. */
  private boolean putSigned(int row, Natural into) {
    putNumber(row, dialList.allSet(), into);
    scratch.becomeAs(into);
    scratch.scale(2, 0);
    if (isBelowAll(scratch)) {
      return false;
    }
    scratch.becomeAs(yardProduct);
    scratch.lower(into);
    into.becomeAs(scratch);
    return true;
  }

  private long determinantAt(int first, int i) {
    long a = rows[first][i];
    long b = rows[first + 1][i];
    long c = rows[first + 2][i];
    long d = rows[first + 3][i];
    long e = rows[first + 4][i];
    long f = rows[first + 5][i];
    long g = rows[first + 6][i];
    long h = rows[first + 7][i];
    long k = rows[first + 8][i];
    return a * (e * k - f * h) - b * (d * k - f * g) + c * (d * h - e * g);
  }

  private int polynomialAt(int first, int many, int at, int i) {
    int sum = 0;
    for (int row = first + many - 1; row >= first; row--) {
      sum = Residues.of((long) sum * at + rows[row][i], dialList.at(i));
    }
    return sum;
  }

  /**
   * Tells whether the least number with the remainders of these wheels is below the product of the
   * main dials. With all but one in the set, it is the least that the row can have by turning that
   * one, since each number with the others' remainders has one place of its wheel.
   */
  private boolean isBelowMain(int row, int set) {
    putNumber(row, set, value);
    dialList.putProduct(dialList.mainSet(), scratch);
    return value.order(scratch) < 0;
  }

  private int falseWheel(int row) {
    if (isBelowMain(row, dialList.allSet())) {
      return IS_TRUE;
    }
    int found = NO_WHEEL;
    for (int i = 0; i < dialList.size(); i++) {
      if (isBelowMain(row, setWithout(i))) {
        if (found != NO_WHEEL) {
          return SEVERAL_WHEELS;
        }
        found = i;
      }
    }
    return found;
  }

  private boolean hasFraction(Natural of) {
    dialList.putProduct(dialList.allSet(), yardProduct);
    return search.run(of, yardProduct) && dialList.areCoprimeTo(search.below());
  }

  // ---- what isSound() checks

  private boolean hasRemainders(int row, Natural of) {
    for (int i = 0; i < dialList.size(); i++) {
      if (of.remainderBy(dialList.at(i)) != rows[row][i]) {
        return false;
      }
    }
    return true;
  }

  private boolean isSumOfWheels(int row, Natural due) {
    Natural sum = otherValue;
    sum.become(0);
    for (int i = 0; i < dialList.size(); i++) {
      int dial = dialList.at(i);
      // the product of the other dials, so that the other wheels are at 0
      scratch.becomeAs(yardProduct);
      scratch.cut(dial);
      int unit = Residues.inverseOf(scratch.remainderBy(dial), dial);
      sum.raiseBy(scratch, Residues.of((long) rows[row][i] * unit, dial));
      if (sum.order(yardProduct) >= 0) {
        sum.lower(yardProduct);
      }
    }
    return sum.order(due) == 0;
  }

  private boolean isFractionSound(int row, Natural of) {
    if (!hasFraction(of)) {
      return true;
    }
    for (int i = 0; i < dialList.size(); i++) {
      int dial = dialList.at(i);
      long above = search.above().remainderBy(dial);
      long below = search.below().remainderBy(dial);
      long difference = below * rows[row][i] - (search.isBelowZero() ? -above : above);
      if (Residues.of(difference, dial) != 0) {
        return false;
      }
    }
    return true;
  }

  private boolean areNeighboursSound() {
    int set = dialList.allSet();
    for (int row = 0; row + 1 < ROWS; row++) {
      digits.take(rows[row], dialList, set);
      digits.putNumber(dialList, set, value);
      nextDigits.take(rows[row + 1], dialList, set);
      nextDigits.putNumber(dialList, set, otherValue);
      if (digits.order(nextDigits, dialList.size()) != value.order(otherValue)) {
        return false;
      }
    }
    return true;
  }

  private boolean areConditionsSound() {
    boolean met = conditions.putMeeting(value, scratch);
    if (met && !conditions.areMetBy(value)) {
      return false;
    }
    return met == (conditions.firstPairApart() < 0);
  }

  /** Remainders of small numbers by one dial. */
  private static final class Residues {
    // Euclid's steps on numbers below 10000 are under 20
    private static final int MOST_STEPS = 100;
    private static final int EXPONENT_BITS = 32;

    private Residues() {
    }

    static int of(long value, int dial) {
      if (dial < 1) {
        return 0;
      }
      long remainder = value % dial;
      return (int) (remainder < 0 ? remainder + dial : remainder);
    }

    static int commonDivisor(int a, int b) {
      int rest = a;
      int next = b;
      for (int step = 0; step < MOST_STEPS && next != 0; step++) {
        int held = rest % next;
        rest = next;
        next = held;
      }
      return rest;
    }

    /** Answers 0 if there is none: no inverse by a dial above 1 is at 0. */
    static int inverseOf(int value, int dial) {
      int rest = dial;
      int next = value;
      int factor = 0;
      int nextFactor = 1;
      for (int step = 0; step < MOST_STEPS && next != 0; step++) {
        int times = rest / next;
        int held = rest - times * next;
        rest = next;
        next = held;
        held = factor - times * nextFactor;
        factor = nextFactor;
        nextFactor = held;
      }
      if (rest != 1) {
        return 0;
      }
      return factor < 0 ? factor + dial : factor;
    }

    static int powerOf(int base, long exponent, int dial) {
      int result = of(1, dial);
      for (int bit = EXPONENT_BITS - 1; bit >= 0; bit--) {
        result = of((long) result * result, dial);
        if ((exponent >> bit & 1) == 1) {
          result = of((long) result * base, dial);
        }
      }
      return result;
    }
  }

  /**
   * A whole number not below 0, in limbs of nine decimal digits, the lowest first. The limbs above
   * its size are 0. The greatest that is needed, 12 times a third power, has 121 digits.
   */
  private static final class Natural {
    private static final int LIMBS = 16;
    private static final int BASE = 1000000000;
    private static final int BASE_DIGITS = 9;
    private static final int[] TENS = {
      1, 10, 100, 1000, 10000, 100000, 1000000, 10000000, 100000000
    };

    private final int[] limbs = new int[LIMBS];
    private int size;

    boolean isZero() {
      return size == 0;
    }

    void become(long value) {
      for (int i = 0; i < size; i++) {
        limbs[i] = 0;
      }
      size = 0;
      long left = value;
      for (int i = 0; i < LIMBS && left > 0; i++) {
        limbs[i] = (int) (left % BASE);
        left /= BASE;
        size = i + 1;
      }
    }

    void becomeAs(Natural from) {
      int most = Math.max(size, from.size);
      for (int i = 0; i < most; i++) {
        limbs[i] = from.limbs[i];
      }
      size = from.size;
    }

    /** Becomes the product of two others, neither of them itself. */
    void becomeProduct(Natural a, Natural b) {
      become(0);
      for (int i = 0; i < a.size; i++) {
        long carry = 0;
        for (int j = 0; i + j < LIMBS && (j < b.size || carry != 0); j++) {
          long sum = limbs[i + j] + carry;
          if (j < b.size) {
            sum += (long) a.limbs[i] * b.limbs[j];
          }
          limbs[i + j] = (int) (sum % BASE);
          carry = sum / BASE;
        }
      }
      trimFrom(Math.min(a.size + b.size, LIMBS));
    }

    void scale(int factor, int more) {
      long carry = more;
      for (int i = 0; i < LIMBS && (i < size || carry != 0); i++) {
        long sum = (long) limbs[i] * factor + carry;
        limbs[i] = (int) (sum % BASE);
        carry = sum / BASE;
      }
      trimFrom(Math.min(size + 1, LIMBS));
    }

    void raiseBy(Natural added, int times) {
      long carry = 0;
      int most = Math.max(size, added.size);
      for (int i = 0; i < LIMBS && (i < added.size || carry != 0); i++) {
        long sum = limbs[i] + (long) added.limbs[i] * times + carry;
        limbs[i] = (int) (sum % BASE);
        carry = sum / BASE;
      }
      trimFrom(Math.min(most + 1, LIMBS));
    }

    /** Takes away another one that is not greater. */
    void lower(Natural taken) {
      int borrow = 0;
      for (int i = 0; i < size; i++) {
        int difference = limbs[i] - taken.limbs[i] - borrow;
        borrow = difference < 0 ? 1 : 0;
        limbs[i] = difference + borrow * BASE;
      }
      trimFrom(size);
    }

    /** Becomes what it is divided by a number, cut, and answers the remainder. */
    int cut(int divisor) {
      if (divisor < 1) {
        return 0;
      }
      long rest = 0;
      for (int i = size - 1; i >= 0; i--) {
        long value = rest * BASE + limbs[i];
        limbs[i] = (int) (value / divisor);
        rest = value % divisor;
      }
      trimFrom(size);
      return (int) rest;
    }

    int remainderBy(int divisor) {
      if (divisor < 1) {
        return 0;
      }
      long rest = 0;
      for (int i = size - 1; i >= 0; i--) {
        rest = (rest * BASE + limbs[i]) % divisor;
      }
      return (int) rest;
    }

    int order(Natural than) {
      if (size != than.size) {
        return size < than.size ? -1 : 1;
      }
      for (int i = size - 1; i >= 0; i--) {
        if (limbs[i] != than.limbs[i]) {
          return limbs[i] < than.limbs[i] ? -1 : 1;
        }
      }
      return 0;
    }

    int decimals() {
      if (size == 0) {
        return 1;
      }
      int many = (size - 1) * BASE_DIGITS + 1;
      for (int i = 1; i < BASE_DIGITS; i++) {
        if (limbs[size - 1] >= TENS[i]) {
          many++;
        }
      }
      return many;
    }

    int decimalAt(int place) {
      if (place < 0 || place / BASE_DIGITS >= LIMBS) {
        return 0;
      }
      return limbs[place / BASE_DIGITS] / TENS[place % BASE_DIGITS] % 10;
    }

    private void trimFrom(int most) {
      size = most;
      for (int i = most - 1; i >= 0 && limbs[i] == 0; i--) {
        size = i;
      }
    }
  }

  /** The dials, in the order in which they came. A set of them is held as the bits of an int. */
  private static final class Dials {
    private final int[] values = new int[MOST_DIALS];
    private final int[] sorted = new int[MOST_DIALS];
    private int count;
    private int spares;

    int size() {
      return count;
    }

    int spare() {
      return spares;
    }

    int at(int index) {
      return values[index];
    }

    int sortedAt(int place) {
      return sorted[place];
    }

    int allSet() {
      return (1 << count) - 1;
    }

    int mainSet() {
      return (1 << (count - spares)) - 1;
    }

    void letSpare(int many) {
      spares = many;
    }

    void append(int dial) {
      if (count < MOST_DIALS) {
        values[count] = dial;
        count++;
      }
    }

    void removeAt(int index) {
      count--;
      for (int i = index; i < count; i++) {
        values[i] = values[i + 1];
      }
      spares = Math.min(spares, count);
    }

    int firstClash(int dial) {
      for (int i = 0; i < count; i++) {
        if (Residues.commonDivisor(values[i], dial) > 1) {
          return i;
        }
      }
      return -1;
    }

    boolean areCoprime() {
      for (int i = 0; i < count; i++) {
        // the first clash of a dial that clashes with no other is that with itself
        if (firstClash(values[i]) != i) {
          return false;
        }
      }
      return true;
    }

    boolean areCoprimeTo(Natural value) {
      for (int i = 0; i < count; i++) {
        if (Residues.commonDivisor(values[i], value.remainderBy(values[i])) > 1) {
          return false;
        }
      }
      return true;
    }

    void putProduct(int set, Natural into) {
      into.become(1);
      for (int i = 0; i < count; i++) {
        if ((set >> i & 1) == 1) {
          into.scale(values[i], 0);
        }
      }
    }

    void sort() {
      for (int i = 0; i < count; i++) {
        int place = i;
        for (; place > 0 && sorted[place - 1] > values[i]; place--) {
          sorted[place] = sorted[place - 1];
        }
        sorted[place] = values[i];
      }
    }
  }

  /** The mixed digits of the least number with the remainders of some wheels of a row. */
  private static final class MixedDigits {
    private final int[] values = new int[MOST_DIALS];

    int at(int index) {
      return values[index];
    }

    /** Finds the digits by the dials of a set; the others are as if they were not there. */
    void take(int[] places, Dials dials, int set) {
      for (int i = 0; i < dials.size(); i++) {
        values[i] = (set >> i & 1) == 1 ? digitOf(i, places[i], dials, set) : 0;
      }
    }

    private int digitOf(int index, int place, Dials dials, int set) {
      int dial = dials.at(index);
      long value = 0;
      int weight = 1;
      for (int j = 0; j < index; j++) {
        if ((set >> j & 1) == 1) {
          value += (long) weight * values[j];
          weight = Residues.of((long) weight * dials.at(j), dial);
        }
      }
      int left = Residues.of(place - value, dial);
      return Residues.of((long) left * Residues.inverseOf(weight, dial), dial);
    }

    void putNumber(Dials dials, int set, Natural into) {
      into.become(0);
      for (int i = dials.size() - 1; i >= 0; i--) {
        if ((set >> i & 1) == 1) {
          into.scale(dials.at(i), values[i]);
        }
      }
    }

    int order(MixedDigits than, int count) {
      for (int i = count - 1; i >= 0; i--) {
        if (values[i] != than.values[i]) {
          return values[i] < than.values[i] ? -1 : 1;
        }
      }
      return 0;
    }
  }

  /** What rows were ahead of the latest calls, in a ring. */
  private static final class Keeper {
    private static final int MOST_KEPT = 12;

    private final int[] keptRows = new int[MOST_KEPT];
    private final int[][] keptPlaces = new int[MOST_KEPT][MOST_DIALS];
    private int first;
    private int count;

    void dropAll() {
      count = 0;
    }

    void keep(int row, int[] places) {
      int slot = (first + count) % MOST_KEPT;
      keptRows[slot] = row;
      for (int i = 0; i < MOST_DIALS; i++) {
        keptPlaces[slot][i] = places[i];
      }
      if (count < MOST_KEPT) {
        count++;
      } else {
        first = (first + 1) % MOST_KEPT;
      }
    }

    /** Answers -1 if no call is kept. */
    int latestRow() {
      return count == 0 ? -1 : keptRows[(first + count - 1) % MOST_KEPT];
    }

    void giveBack(int[] places) {
      if (count == 0) {
        return;
      }
      count--;
      int slot = (first + count) % MOST_KEPT;
      for (int i = 0; i < MOST_DIALS; i++) {
        places[i] = keptPlaces[slot][i];
      }
    }
  }

  private static final class Text {
    private static final int MOST_SIGNS = 80;
    private static final int LEAST_CODE = 32;
    private static final int GREATEST_CODE = 126;

    private final char[] signs = new char[MOST_SIGNS];
    private int count;

    int length() {
      return count;
    }

    boolean isFull() {
      return count >= MOST_SIGNS;
    }

    char at(int place) {
      return signs[place];
    }

    void clear() {
      count = 0;
    }

    void append(char sign) {
      if (count < MOST_SIGNS) {
        signs[count] = sign;
        count++;
      }
    }

    void appendNumber(Natural value) {
      for (int place = value.decimals() - 1; place >= 0; place--) {
        append((char) ('0' + value.decimalAt(place)));
      }
    }

    boolean startsWithMinus() {
      return count > 0 && signs[0] == '-';
    }

    boolean isNumber() {
      int start = firstDigit();
      for (int i = start; i < count; i++) {
        if (signs[i] < '0' || signs[i] > '9') {
          return false;
        }
      }
      return start < count;
    }

    void putValue(Natural into) {
      into.become(0);
      for (int i = firstDigit(); i < count; i++) {
        into.scale(10, signs[i] - '0');
      }
    }

    private int firstDigit() {
      return count > 0 && (signs[0] == '+' || signs[0] == '-') ? 1 : 0;
    }
  }

  private static final class Conditions {
    private static final int MOST_CONDITIONS = 8;
    private static final int PAIR = 10;

    private final int[] moduli = new int[MOST_CONDITIONS];
    private final int[] remainders = new int[MOST_CONDITIONS];
    private int count;

    int size() {
      return count;
    }

    boolean isFull() {
      return count >= MOST_CONDITIONS;
    }

    int dialOf(int index) {
      return moduli[index];
    }

    int remainderOf(int index) {
      return remainders[index];
    }

    void clear() {
      count = 0;
    }

    void append(int value, int dial) {
      if (count < MOST_CONDITIONS) {
        moduli[count] = dial;
        remainders[count] = Residues.of(value, dial);
        count++;
      }
    }

    int firstPairApart() {
      for (int i = 0; i < count; i++) {
        for (int j = i + 1; j < count; j++) {
          int shared = Residues.commonDivisor(moduli[i], moduli[j]);
          if (Residues.of(remainders[i] - remainders[j], shared) != 0) {
            return PAIR * i + j;
          }
        }
      }
      return -1;
    }

    boolean areMetBy(Natural value) {
      for (int i = 0; i < count; i++) {
        if (value.remainderBy(moduli[i]) != remainders[i]) {
          return false;
        }
      }
      return true;
    }

    void putPeriod(Natural into) {
      into.become(1);
      for (int i = 0; i < count; i++) {
        into.scale(newPart(into, moduli[i]), 0);
      }
    }

    /**
     * Puts the least number that meets all conditions, and answers whether there is one. One
     * condition after the other is met by going on in steps of the period of those before it.
     */
    boolean putMeeting(Natural into, Natural steps) {
      into.become(0);
      steps.become(1);
      for (int i = 0; i < count; i++) {
        int dial = moduli[i];
        int part = newPart(steps, dial);
        int shared = part < 1 ? 1 : dial / part;
        int missing = Residues.of(remainders[i] - into.remainderBy(dial), dial);
        if (shared < 1 || missing % shared != 0) {
          return false;
        }
        int step = Residues.of(steps.remainderBy(dial) / shared, part);
        long times = (long) (missing / shared) * Residues.inverseOf(step, part);
        into.raiseBy(steps, Residues.of(times, part));
        steps.scale(part, 0);
      }
      return true;
    }

    /** The part of a dial by which it makes the least common multiple greater. */
    private static int newPart(Natural multiple, int dial) {
      int shared = Residues.commonDivisor(dial, multiple.remainderBy(dial));
      return shared < 1 ? dial : dial / shared;
    }
  }

  /**
   * Looks for the fraction of a number by Euclid's steps on the product and the number. In each
   * step the rest is the number times the factor, but for multiples of the product; the signs of
   * the factors take turns. By Legendre's theorem on continued fractions, a fraction with both
   * parts below the root of half the product is the first step whose rest is so small.
   */
  private static final class FractionSearch {
    // Euclid's steps on numbers of 40 digits are under 200, and these have 133 bits
    private static final int MOST_STEPS = 1000;
    private static final int MOST_DOUBLINGS = 200;

    private Natural oldRest = new Natural();
    private Natural oldFactor = new Natural();
    private Natural rest = new Natural();
    private Natural factor = new Natural();
    private final Natural taken = new Natural();
    private final Natural takenFactor = new Natural();
    private boolean factorBelowZero;

    Natural above() {
      return rest;
    }

    Natural below() {
      return factor;
    }

    boolean isBelowZero() {
      return factorBelowZero;
    }

    /** Answers whether both parts are small enough; a divisor of the product may be in both. */
    boolean run(Natural number, Natural product) {
      oldRest.becomeAs(product);
      oldFactor.become(0);
      rest.becomeAs(number);
      factor.become(1);
      factorBelowZero = false;
      for (int step = 0; step < MOST_STEPS && !isSmall(rest, product); step++) {
        reduceOld();
        swap();
      }
      return isSmall(rest, product) && isSmall(factor, product);
    }

    private boolean isSmall(Natural value, Natural product) {
      taken.becomeProduct(value, value);
      taken.scale(2, 0);
      return taken.order(product) < 0;
    }

    private void reduceOld() {
      taken.becomeAs(rest);
      takenFactor.becomeAs(factor);
      int doublings = 0;
      while (doublings < MOST_DOUBLINGS && taken.order(oldRest) <= 0) {
        taken.scale(2, 0);
        takenFactor.scale(2, 0);
        doublings++;
      }
      for (; doublings > 0; doublings--) {
        taken.cut(2);
        takenFactor.cut(2);
        if (taken.order(oldRest) <= 0) {
          oldRest.lower(taken);
          oldFactor.raiseBy(takenFactor, 1);
        }
      }
    }

    private void swap() {
      Natural held = oldRest;
      oldRest = rest;
      rest = held;
      held = oldFactor;
      oldFactor = factor;
      factor = held;
      factorBelowZero = !factorBelowZero;
    }
  }
}
