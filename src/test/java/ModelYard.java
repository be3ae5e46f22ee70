import java.math.BigInteger;
import java.util.ArrayDeque;
import java.util.ArrayList;
import java.util.Collections;
import java.util.List;
import java.util.NoSuchElementException;

/** The document once more, over BigInteger and as plainly as it goes, to compare with. */
public final class ModelYard {
  private static final BigInteger TWO = BigInteger.TWO;
  private static final int BRUTE = 100;

  private final List<Integer> dials = new ArrayList<>();
  private final List<List<Integer>> rows = new ArrayList<>();
  private final ArrayDeque<Object[]> kept = new ArrayDeque<>();
  private final List<int[]> conditions = new ArrayList<>();
  private String text = "";
  private int spare;

  public ModelYard() {
    for (int i = 0; i < 12; i++) {
      rows.add(new ArrayList<>());
    }
  }

  private static BigInteger big(long value) {
    return BigInteger.valueOf(value);
  }

  private BigInteger productOf(int from, int to) {
    BigInteger product = BigInteger.ONE;
    for (int i = from; i < to; i++) {
      product = product.multiply(big(dials.get(i)));
    }
    return product;
  }

  private BigInteger all() {
    return productOf(0, dials.size());
  }

  private BigInteger main() {
    return productOf(0, dials.size() - spare);
  }

  private BigInteger crt(List<Integer> places, int set) {
    BigInteger product = BigInteger.ONE;
    for (int i = 0; i < dials.size(); i++) {
      if ((set & 1 << i) != 0) {
        product = product.multiply(big(dials.get(i)));
      }
    }
    BigInteger sum = BigInteger.ZERO;
    for (int i = 0; i < dials.size(); i++) {
      if ((set & 1 << i) != 0) {
        BigInteger dial = big(dials.get(i));
        BigInteger others = product.divide(dial);
        sum = sum.add(others.multiply(others.modInverse(dial)).multiply(big(places.get(i))));
      }
    }
    return sum.mod(product);
  }

  private BigInteger number(int row) {
    return crt(rows.get(row), (1 << dials.size()) - 1);
  }

  private BigInteger signed(int row) {
    BigInteger number = number(row);
    return number.multiply(TWO).compareTo(all()) < 0 ? number : number.subtract(all());
  }

  private List<Integer> remaindersOf(BigInteger number) {
    List<Integer> places = new ArrayList<>();
    for (int dial : dials) {
      places.add(number.mod(big(dial)).intValue());
    }
    return places;
  }

  private int become(int row, List<Integer> places) {
    kept.addLast(new Object[] {row, rows.get(row)});
    if (kept.size() > 12) {
      kept.removeFirst();
    }
    rows.set(row, places);
    return Collections.frequency(places, 0);
  }

  private int put(String number) {
    text = number;
    return text.length();
  }

  private static void needRow(int... asked) {
    for (int row : asked) {
      if (row < 0 || row > 11) {
        throw new IndexOutOfBoundsException();
      }
    }
  }

  private static void needRun(int first, int many) {
    for (int i = 0; i < many; i++) {
      long row = (long) first + i;
      if (row < 0 || row > 11) {
        throw new IndexOutOfBoundsException();
      }
    }
  }

  private void needDial(int index) {
    if (index < 0 || index >= dials.size()) {
      throw new NoSuchElementException();
    }
  }

  private static int gcd(long a, long b) {
    return big(a).gcd(big(b)).intValueExact();
  }

  private void needInverse(int row) {
    for (int i = 0; i < dials.size(); i++) {
      if (gcd(rows.get(row).get(i), dials.get(i)) != 1) {
        throw new ArithmeticException();
      }
    }
  }

  public int addDial(int dial) {
    int clash = clash(dial);
    if (clash >= 0) {
      throw new UnsupportedOperationException();
    }
    if (dials.size() == 10) {
      throw new IllegalStateException();
    }
    List<BigInteger> numbers = new ArrayList<>();
    for (int row = 0; row < 12; row++) {
      numbers.add(number(row));
    }
    dials.add(dial);
    for (int row = 0; row < 12; row++) {
      rows.set(row, remaindersOf(numbers.get(row)));
    }
    kept.clear();
    return dials.size() - 1;
  }

  public int clash(int dial) {
    if (dial < 2 || dial > 9999) {
      throw new IllegalArgumentException();
    }
    for (int i = 0; i < dials.size(); i++) {
      if (gcd(dial, dials.get(i)) > 1) {
        return i;
      }
    }
    return -1;
  }

  public int dropDial(int index) {
    needDial(index);
    for (int row = 0; row < 12; row++) {
      List<Integer> places = new ArrayList<>(rows.get(row));
      places.remove(index);
      rows.set(row, places);
    }
    kept.clear();
    int dial = dials.remove(index);
    spare = Math.min(spare, dials.size());
    return dial;
  }

  public int setSpare(int many) {
    if (many < 0 || many > dials.size()) {
      throw new IllegalArgumentException();
    }
    int before = spare;
    spare = many;
    return before;
  }

  public int dials() {
    return dials.size();
  }

  public int dialAt(int index) {
    needDial(index);
    return dials.get(index);
  }

  public int product() {
    return put(all().toString());
  }

  public int type(char sign) {
    if (sign < 32 || sign > 126) {
      throw new IllegalArgumentException();
    }
    if (text.length() == 80) {
      throw new IllegalStateException();
    }
    text += sign;
    return text.length();
  }

  public int erase() {
    int before = text.length();
    text = "";
    return before;
  }

  public char signAt(int place) {
    if (place < 0 || place >= text.length()) {
      throw new IllegalArgumentException();
    }
    return text.charAt(place);
  }

  private boolean becomeNumber(int row, BigInteger number) {
    become(row, remaindersOf(number));
    return number(row).equals(number);
  }

  public boolean set(int row, long number) {
    needRow(row);
    return becomeNumber(row, big(number));
  }

  public boolean read(int row) {
    needRow(row);
    if (!text.matches("[+-]?[0-9]+")) {
      throw new NumberFormatException();
    }
    BigInteger number = new BigInteger(text);
    text = "";
    return becomeNumber(row, number);
  }

  public int tell(int row) {
    needRow(row);
    return put(number(row).toString());
  }

  public int tellSigned(int row) {
    needRow(row);
    return put(signed(row).toString());
  }

  public int wheel(int row, int index) {
    needRow(row);
    needDial(index);
    return rows.get(row).get(index);
  }

  public int turn(int row, int index, int place) {
    needRow(row);
    needDial(index);
    if (place < 0 || place >= dials.get(index)) {
      throw new IllegalArgumentException();
    }
    List<Integer> places = new ArrayList<>(rows.get(row));
    int before = places.set(index, place);
    become(row, places);
    return before;
  }

  public int copy(int row, int from) {
    needRow(row, from);
    return become(row, rows.get(from));
  }

  @SuppressWarnings("unchecked")
  public int undo() {
    if (kept.isEmpty()) {
      throw new NoSuchElementException();
    }
    Object[] latest = kept.removeLast();
    rows.set((Integer) latest[0], (List<Integer>) latest[1]);
    return (Integer) latest[0];
  }

  public int add(int row, int a, int b) {
    needRow(row, a, b);
    return become(row, remaindersOf(number(a).add(number(b))));
  }

  public int subtract(int row, int a, int b) {
    needRow(row, a, b);
    return become(row, remaindersOf(number(a).subtract(number(b))));
  }

  public int multiply(int row, int a, int b) {
    needRow(row, a, b);
    return become(row, remaindersOf(number(a).multiply(number(b))));
  }

  public int power(int row, int a, int exponent) {
    needRow(row, a);
    if (exponent < 0) {
      needInverse(a);
    }
    List<Integer> places = new ArrayList<>();
    for (int i = 0; i < dials.size(); i++) {
      places.add(big(rows.get(a).get(i)).modPow(big(exponent), big(dials.get(i))).intValue());
    }
    return become(row, places);
  }

  public int inverse(int row, int a) {
    needRow(row, a);
    needInverse(a);
    return become(row, remaindersOf(dials.isEmpty() ? BigInteger.ZERO : number(a).modInverse(all())));
  }

  public int divide(int row, int a, int b) {
    needRow(row, a, b);
    needInverse(b);
    BigInteger over = dials.isEmpty() ? BigInteger.ZERO : number(b).modInverse(all());
    return become(row, remaindersOf(number(a).multiply(over)));
  }

  public int divideBy(int row, int a, int index) {
    needRow(row, a);
    needDial(index);
    BigInteger[] parts = number(a).divideAndRemainder(big(dials.get(index)));
    become(row, remaindersOf(parts[0]));
    return parts[1].intValue();
  }

  public int determinant(int row, int first) {
    needRow(row);
    needRun(first, 9);
    BigInteger sum = BigInteger.ZERO;
    int[][] orders = {{0, 1, 2}, {1, 2, 0}, {2, 0, 1}, {0, 2, 1}, {1, 0, 2}, {2, 1, 0}};
    for (int i = 0; i < 6; i++) {
      BigInteger term = BigInteger.ONE;
      for (int line = 0; line < 3; line++) {
        term = term.multiply(number(first + 3 * line + orders[i][line]));
      }
      sum = i < 3 ? sum.add(term) : sum.subtract(term);
    }
    return become(row, remaindersOf(sum));
  }

  public int polynomial(int row, int first, int many, int at) {
    if (many < 1 || many > 6) {
      throw new IllegalArgumentException();
    }
    needRow(row);
    needRun(first, many);
    needRow(at);
    BigInteger sum = BigInteger.ZERO;
    for (int i = 0; i < many; i++) {
      sum = sum.add(number(first + i).multiply(number(at).pow(i)));
    }
    return become(row, remaindersOf(sum));
  }

  public int digit(int row, int index) {
    needRow(row);
    needDial(index);
    return number(row).divide(productOf(0, index)).mod(big(dials.get(index))).intValue();
  }

  public int compare(int a, int b) {
    needRow(a, b);
    return number(a).compareTo(number(b));
  }

  public int sign(int row) {
    needRow(row);
    return signed(row).signum();
  }

  public boolean isOver(int a, int b, char act) {
    needRow(a, b);
    if (act != '+' && act != '*') {
      throw new IllegalArgumentException();
    }
    BigInteger made = act == '+' ? number(a).add(number(b)) : number(a).multiply(number(b));
    return made.compareTo(all()) >= 0;
  }

  public boolean isEnough(int first) {
    needRun(first, 9);
    BigInteger greatest = BigInteger.ZERO;
    for (int i = 0; i < 9; i++) {
      greatest = greatest.max(signed(first + i).abs());
    }
    return greatest.pow(3).multiply(big(12)).compareTo(all()) < 0;
  }

  public boolean isTrue(int row) {
    needRow(row);
    return number(row).compareTo(main()) < 0;
  }

  /** The least true number with the wheel at any place, or null; small dials are tried out. */
  private BigInteger leastTrue(int row, int index) {
    BigInteger least = null;
    int dial = dials.get(index);
    if (dial > BRUTE) {
      BigInteger rest = number(row).mod(all().divide(big(dial)));
      return rest.compareTo(main()) < 0 ? rest : null;
    }
    List<Integer> places = new ArrayList<>(rows.get(row));
    for (int place = 0; place < dial; place++) {
      places.set(index, place);
      BigInteger number = crt(places, (1 << dials.size()) - 1);
      if (number.compareTo(main()) < 0 && (least == null || number.compareTo(least) < 0)) {
        least = number;
      }
    }
    return least;
  }

  public int find(int row) {
    needRow(row);
    if (isTrue(row)) {
      return -1;
    }
    List<Integer> found = new ArrayList<>();
    for (int i = 0; i < dials.size(); i++) {
      if (leastTrue(row, i) != null) {
        found.add(i);
      }
    }
    return found.isEmpty() ? -2 : found.size() > 1 ? -3 : found.get(0);
  }

  public int mend(int row) {
    needRow(row);
    int index = find(row);
    if (index < 0) {
      throw new NoSuchElementException();
    }
    become(row, remaindersOf(leastTrue(row, index)));
    return rows.get(row).get(index);
  }

  public boolean setFraction(int row, long above, long below) {
    needRow(row);
    if (below == 0) {
      throw new ArithmeticException();
    }
    for (int dial : dials) {
      if (gcd(below, dial) > 1) {
        throw new ArithmeticException();
      }
    }
    BigInteger over = dials.isEmpty() ? BigInteger.ZERO : big(below).modInverse(all());
    become(row, remaindersOf(big(above).multiply(over)));
    return big(above).remainder(big(below)).signum() == 0;
  }

  private boolean isFraction(BigInteger above, BigInteger below) {
    return above.pow(2).multiply(TWO).compareTo(all()) < 0
        && below.pow(2).multiply(TWO).compareTo(all()) < 0
        && below.gcd(all()).equals(BigInteger.ONE)
        && above.gcd(below).equals(BigInteger.ONE);
  }

  /** Tries each number below the line of small products, and each step of Euclid's of others. */
  private String fractionOf(BigInteger number) {
    BigInteger all = all();
    if (all.bitLength() <= 16) {
      for (BigInteger below = BigInteger.ONE; below.pow(2).multiply(TWO).compareTo(all) < 0;
          below = below.add(BigInteger.ONE)) {
        BigInteger above = below.multiply(number).mod(all);
        for (BigInteger tried : new BigInteger[] {above, above.subtract(all)}) {
          if (isFraction(tried, below)) {
            return tried + "/" + below;
          }
        }
      }
      return null;
    }
    BigInteger[] old = {all, BigInteger.ZERO};
    BigInteger[] step = {number, BigInteger.ONE};
    while (true) {
      if (step[1].signum() != 0 && isFraction(step[0], step[1].abs())) {
        return (step[1].signum() < 0 ? step[0].negate() : step[0]) + "/" + step[1].abs();
      }
      if (step[0].signum() == 0) {
        return null;
      }
      BigInteger times = old[0].divide(step[0]);
      BigInteger[] next = {
        old[0].subtract(times.multiply(step[0])), old[1].subtract(times.multiply(step[1]))
      };
      old = step;
      step = next;
    }
  }

  public int fraction(int row) {
    needRow(row);
    String found = fractionOf(number(row));
    if (found == null) {
      throw new NoSuchElementException();
    }
    return put(found);
  }

  public int told(int row, int set) {
    needRow(row);
    if (set < 0 || set >> dials.size() != 0) {
      throw new IllegalArgumentException();
    }
    return put(crt(rows.get(row), set).toString());
  }

  public int open(int k) {
    if (k < 1 || k > dials.size()) {
      throw new IllegalArgumentException();
    }
    List<Integer> sorted = new ArrayList<>(dials);
    Collections.sort(sorted);
    BigInteger least = BigInteger.ONE;
    BigInteger greatest = BigInteger.ONE;
    for (int i = 0; i < k; i++) {
      least = least.multiply(big(sorted.get(i)));
      if (i > 0) {
        greatest = greatest.multiply(big(sorted.get(sorted.size() - i)));
      }
    }
    return put(least.divide(greatest).toString());
  }

  public int meet(int number, int dial) {
    if (dial < 1 || dial > 9999) {
      throw new IllegalArgumentException();
    }
    if (conditions.size() == 8) {
      throw new IllegalStateException();
    }
    conditions.add(new int[] {Math.floorMod(number, dial), dial});
    return conditions.size();
  }

  public int apart() {
    for (int i = 0; i < conditions.size(); i++) {
      for (int j = i + 1; j < conditions.size(); j++) {
        int[] a = conditions.get(i);
        int[] b = conditions.get(j);
        if ((a[0] - b[0]) % gcd(a[1], b[1]) != 0) {
          return 10 * i + j;
        }
      }
    }
    return -1;
  }

  /** Tries, condition after condition, each number that meets those before it. */
  public int meeting() {
    BigInteger number = BigInteger.ZERO;
    BigInteger period = BigInteger.ONE;
    for (int[] condition : conditions) {
      BigInteger dial = big(condition[1]);
      int tries = 0;
      while (!number.mod(dial).equals(big(condition[0]))) {
        number = number.add(period);
        tries++;
        if (tries > condition[1]) {
          throw new NoSuchElementException();
        }
      }
      period = period.multiply(dial).divide(period.gcd(dial));
    }
    return put(number.toString());
  }

  public int period() {
    BigInteger period = BigInteger.ONE;
    for (int[] condition : conditions) {
      BigInteger dial = big(condition[1]);
      period = period.multiply(dial).divide(period.gcd(dial));
    }
    return put(period.toString());
  }

  public int forget() {
    int before = conditions.size();
    conditions.clear();
    return before;
  }

  public long checksum() {
    long sum = 7;
    sum = 31 * sum + spare;
    for (int dial : dials) {
      sum = 31 * sum + dial;
    }
    for (List<Integer> places : rows) {
      for (int place : places) {
        sum = 31 * sum + place;
      }
    }
    for (int[] condition : conditions) {
      sum = 31 * sum + condition[1];
      sum = 31 * sum + condition[0];
    }
    for (char sign : text.toCharArray()) {
      sum = 31 * sum + sign;
    }
    return sum;
  }

  public boolean isSound() {
    return true;
  }

  String text() {
    return text;
  }
}
