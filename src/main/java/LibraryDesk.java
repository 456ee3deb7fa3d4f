import java.util.Arrays;
import java.util.NoSuchElementException;

/** A desk with OBJECTS made of rows, THREADS that go by turns, and days; see README.md. */
public final class LibraryDesk {
  private static final int FIRST_YEAR = -9999;
  private static final int LAST_YEAR = 9999;

  private final Thing[] shelf = new Thing[Thing.PLACES];
  private final Bytes tape = new Bytes();
  private final Bytes taken = new Bytes();
  private final Bytes out = new Bytes();
  private final int[] latest = new int[Matcher.MARKS];
  private final Rows rows = new Rows(shelf);
  private final Maps maps = new Maps();
  private final Texts texts = new Texts(shelf, taken, out);
  private final PatternMaker maker = new PatternMaker(taken);
  private final Matcher matcher = new Matcher();
  private final Numbers numbers = new Numbers(taken, out);
  private final Streams streams = new Streams(shelf, maps, taken);
  private final Threads threads = new Threads(shelf, taken);

  public LibraryDesk() {
    for (int i = 0; i < shelf.length; i++) {
      shelf[i] = new Thing();
    }
    Arrays.fill(latest, -1);
  }

  public int feed(int a, int b, int c, int d, int e) throws IndexOutOfBoundsException {
    if (tape.size + 20 > Bytes.MOST) {
      throw new IndexOutOfBoundsException();
    }
    tape.addInt(a);
    tape.addInt(b);
    tape.addInt(c);
    tape.addInt(d);
    tape.addInt(e);
    return tape.size;
  }

  public int end(int n) throws IllegalArgumentException {
    if (n < 0 || n > tape.size) {
      throw new IllegalArgumentException();
    }
    tape.size = n;
    return n;
  }

  /** THE TAPE is empty from here on, whatever the call throws; what it had is in taken. */
  private void takeTape() {
    taken.swap(tape);
    tape.size = 0;
    taken.begin();
  }

  public int make(int kind, int a, int b)
      throws IllegalArgumentException, IllegalStateException, NegativeArraySizeException {
    if (kind < 0 || kind > Thing.FUTURE || kind >= Thing.PATTERN && kind <= Thing.VIEW) {
      throw new IllegalArgumentException();
    }
    if (kind <= Thing.HASH && a < 0) {
      throw new NegativeArraySizeException();
    }
    if (!Thing.mayBe(kind, a, b)) {
      throw new IllegalArgumentException();
    }
    int o = Thing.freePlace(shelf);
    shelf[o].renew(kind, a, b);
    return o;
  }

  public int drop(int o) throws NoSuchElementException, IllegalStateException {
    Thing.find(shelf, o);
    if (threads.anyInRow(o)) {
      throw new IllegalStateException();
    }
    return Thing.clearAway(shelf, o);
  }

  public long list(int o, int op, int a, int b)
      throws NoSuchElementException, ClassCastException, IllegalArgumentException,
          IllegalStateException, UnsupportedOperationException, IndexOutOfBoundsException {
    Thing t = Thing.find(shelf, o);
    boolean two = op >= 9 && op <= 11 || op == 26;
    Thing other = two ? Thing.find(shelf, b) : t;
    t.needRow();
    other.needRow();
    if (op < 0 || op > 30 || op == 12 && (a < 0 || a > 3) || op == 19 && (b < 0 || b > 3)
        || op == 28 && (a < -1 || a > Rows.MOST)) {
      throw new IllegalArgumentException();
    }
    t.needFresh();
    other.needFresh();
    if (op >= 27 && op <= 29 && t.kind == Thing.VIEW) {
      throw new UnsupportedOperationException();
    }
    return rows.answer(t, op, a, b, other);
  }

  public long ring(int o, int op, int a)
      throws NoSuchElementException, ClassCastException, IllegalArgumentException,
          IllegalStateException, IndexOutOfBoundsException {
    Thing t = Thing.find(shelf, o);
    t.need(Thing.RING);
    if (op < 0 || op > 14) {
      throw new IllegalArgumentException();
    }
    return rows.answerRing(t, op, a);
  }

  public long map(int o, int op, int a, int b)
      throws NoSuchElementException, ClassCastException, IllegalArgumentException,
          IllegalStateException, UnsupportedOperationException {
    Thing t = Thing.find(shelf, o);
    Thing other = op == 19 || op == 20 ? Thing.find(shelf, b) : t;
    t.needMap();
    other.needMap();
    if (op < 0 || op > 23 || op == 20 && o == b) {
      throw new IllegalArgumentException();
    }
    boolean sorted = t.root.kind == Thing.TREE;
    boolean hash = t.kind == Thing.HASH;
    if (op >= 10 && op <= 13 && hash || (op >= 14 && op <= 17 || op == 23) && !sorted
        || (op == 21 || op == 22) && !hash) {
      throw new UnsupportedOperationException();
    }
    return op == 20 ? maps.putAll(t, other) : maps.answer(t, op, a, b, other);
  }

  public int view(int o, int kind, int a, int b)
      throws NoSuchElementException, ClassCastException, IllegalArgumentException,
          IllegalStateException, IndexOutOfBoundsException {
    Thing t = Thing.find(shelf, o);
    boolean ofRow = t.isRow();
    if (!ofRow && t.kind != Thing.TREE && t.kind != Thing.SUBMAP) {
      throw new ClassCastException();
    }
    if (ofRow ? kind != 0 : kind < 1 || kind > 4 || kind == 1 && maps.isBefore(t, b, a)) {
      throw new IllegalArgumentException();
    }
    t.needFresh();
    if (ofRow && (a < 0 || b < a || b > t.size)) {
      throw new IndexOutOfBoundsException();
    }
    int n = Thing.freePlace(shelf);
    Thing v = shelf[n];
    v.renew(ofRow ? Thing.VIEW : Thing.SUBMAP, 0, 0);
    v.partOf(t, o);
    if (ofRow) {
      v.at = t.at + a;
      v.size = b - a;
    } else {
      maps.narrow(v, t, kind, a, b);
    }
    return n;
  }

  public int cursor(int o) throws NoSuchElementException, ClassCastException, IllegalStateException {
    Thing t = Thing.find(shelf, o);
    if (!t.isRow() && !t.isMap()) {
      throw new ClassCastException();
    }
    t.needFresh();
    int n = Thing.freePlace(shelf);
    shelf[n].renew(Thing.CURSOR, 0, 0);
    shelf[n].partOf(t, o);
    return n;
  }

  public long move(int c, int op, int a)
      throws NoSuchElementException, ClassCastException, IllegalArgumentException,
          IllegalStateException, UnsupportedOperationException {
    Thing cursor = Thing.find(shelf, c);
    cursor.need(Thing.CURSOR);
    if (op < 0 || op > 8) {
      throw new IllegalArgumentException();
    }
    cursor.needFresh();
    Thing t = Thing.find(shelf, cursor.parent);
    boolean onMap = t.isMap();
    if (onMap ? op == 1 || op == 3 || op == 4 || op == 7 : op == 8) {
      throw new UnsupportedOperationException();
    }
    if ((op == 5 || op == 6 || op == 8) && cursor.passed < 0) {
      throw new IllegalStateException();
    }
    return onMap ? maps.walk(cursor, t, op, a) : rows.walk(cursor, t, op, a);
  }

  public long heap(int o, int op, int a)
      throws NoSuchElementException, ClassCastException, IllegalArgumentException,
          IllegalStateException {
    Thing t = Thing.find(shelf, o);
    Thing other = op == 7 ? Thing.find(shelf, a) : t;
    t.need(Thing.HEAP);
    if (op == 7) {
      other.needRow();
    }
    if (op < 0 || op > 7) {
      throw new IllegalArgumentException();
    }
    other.needFresh();
    return rows.answerHeap(t, op, a, other);
  }

  public long bits(int o, int op, int a, int b)
      throws NoSuchElementException, ClassCastException, IllegalArgumentException,
          IndexOutOfBoundsException {
    Thing t = Thing.find(shelf, o);
    boolean two = op >= 13 && op <= 18;
    Thing other = two ? Thing.find(shelf, b) : t;
    t.need(Thing.BITS);
    other.need(Thing.BITS);
    boolean one = op >= 0 && op <= 2 || op >= 6 && op <= 10;
    if (op < 0 || op > 19 || one && a > 4095 || op == 19 && (a < 0 || a > 63)) {
      throw new IllegalArgumentException();
    }
    if (one && a < 0 || op >= 3 && op <= 5 && (a < 0 || b < a || b > 4096)) {
      throw new IndexOutOfBoundsException();
    }
    return texts.answerBits(t.longs, op, a, b, other.longs);
  }

  public long item(int o, int i, int part)
      throws NoSuchElementException, ClassCastException, IllegalArgumentException,
          IllegalStateException, IndexOutOfBoundsException {
    Thing t = Thing.find(shelf, o);
    boolean onMap = t.isMap();
    if (!onMap && !t.isRow() && t.kind != Thing.RING) {
      throw new ClassCastException();
    }
    if (part < 0 || part > 1 || part == 1 && !onMap) {
      throw new IllegalArgumentException();
    }
    t.needFresh();
    int n = onMap ? maps.sizeOf(t) : t.size;
    if (i < 0 || i >= n) {
      throw new IndexOutOfBoundsException();
    }
    int at = onMap ? maps.placeOf(t, i) : t.at + i;
    return part == 1 ? t.root.vals[at] : t.root.row[at];
  }

  public int text(int o, int op, int a, int b)
      throws NoSuchElementException, ClassCastException, IllegalArgumentException,
          IllegalStateException, UnsupportedOperationException, IndexOutOfBoundsException {
    if (op == 0 || op == 1 || op == 3 || op == 7 || op == 8 || op == 20) {
      takeTape();
    }
    Thing t = Thing.find(shelf, o);
    Thing other = op == 9 ? Thing.find(shelf, a) : t;
    t.need(Thing.TEXT);
    other.need(Thing.TEXT);
    if (op < 0 || op > 20 || (op == 12 || op == 17) && (a < 0 || a > Bytes.MOST)) {
      throw new IllegalArgumentException();
    }
    return texts.answer(t.bytes, op, a, b, other.bytes);
  }

  public int pattern()
      throws IllegalStateException, UnsupportedOperationException, IndexOutOfBoundsException {
    takeTape();
    if (maker.weigh() > PatternMaker.MOST_WEIGHT) {
      throw new IndexOutOfBoundsException();
    }
    int o = Thing.freePlace(shelf);
    shelf[o].renew(Thing.PATTERN, 0, 0);
    maker.write(shelf[o]);
    return o;
  }

  public int match(int p, int t, int how, int a)
      throws NoSuchElementException, ClassCastException, IllegalArgumentException,
          IndexOutOfBoundsException {
    Thing pattern = Thing.find(shelf, p);
    Thing text = Thing.find(shelf, t);
    pattern.need(Thing.PATTERN);
    text.need(Thing.TEXT);
    if (how < 0 || how > 2) {
      throw new IllegalArgumentException();
    }
    int size = text.bytes.size;
    if (size > Matcher.MOST || how != 0 && (a < 0 || a > size)) {
      throw new IndexOutOfBoundsException();
    }
    int from = how == 0 ? 0 : a;
    matcher.prepare(pattern, text.bytes, how == 0, from);
    int at = matcher.seek(from, how == 2 ? size : from);
    if (at < 0) {
      return -1;
    }
    matcher.walk(at);
    System.arraycopy(matcher.found, 0, latest, 0, latest.length);
    return latest[1];
  }

  public int group(int i, int part) throws IllegalArgumentException {
    if (i < 0 || i > 9 || part < 0 || part > 1) {
      throw new IllegalArgumentException();
    }
    return latest[2 * i + part];
  }

  public int replace(int p, int t)
      throws NoSuchElementException, ClassCastException, IllegalStateException,
          UnsupportedOperationException, IndexOutOfBoundsException {
    takeTape();
    Thing pattern = Thing.find(shelf, p);
    Thing text = Thing.find(shelf, t);
    pattern.need(Thing.PATTERN);
    text.need(Thing.TEXT);
    if (text.bytes.size > Matcher.MOST_REPLACED) {
      throw new IndexOutOfBoundsException();
    }
    texts.checkMarks();
    return texts.exchange(matcher, pattern, text.bytes);
  }

  public int form(int a)
      throws NoSuchElementException, ClassCastException, IllegalStateException,
          UnsupportedOperationException, IndexOutOfBoundsException {
    takeTape();
    Thing t = Thing.find(shelf, a);
    t.needRow();
    t.needFresh();
    texts.checkFields();
    return texts.fill(t);
  }

  public int set(int o, long v) throws NoSuchElementException, ClassCastException {
    Thing t = Thing.find(shelf, o);
    t.need(Thing.WHOLE);
    t.num.become(v);
    return t.num.sign;
  }

  public int whole(int o, int op, int p, int q)
      throws NoSuchElementException, ClassCastException, IllegalArgumentException,
          ArithmeticException {
    Thing t = Thing.find(shelf, o);
    Thing first = Thing.find(shelf, p);
    Thing second = op == 9 ? first : Thing.find(shelf, q);
    t.need(Thing.WHOLE);
    first.need(Thing.WHOLE);
    second.need(Thing.WHOLE);
    if (op < 0 || op > 13) {
      throw new IllegalArgumentException();
    }
    return numbers.makeWhole(t.num, op, first.num, second.num);
  }

  public int decimal(int o, int op, int p, int q, int n)
      throws NoSuchElementException, ClassCastException, IllegalArgumentException,
          ArithmeticException {
    Thing t = Thing.find(shelf, o);
    Thing first = Thing.find(shelf, p);
    Thing second = op >= 4 && op <= 6 ? first : Thing.find(shelf, q);
    t.need(Thing.DECIMAL);
    first.need(Thing.DECIMAL);
    second.need(Thing.DECIMAL);
    int told = n / 8;
    if (op < 0 || op > 7
        || (op == 3 || op == 4) && (told < -Numbers.MOST_SCALE || told > Numbers.MOST_SCALE)
        || op == 5 && (told < 1 || told > Numbers.MOST_DIGITS)) {
      throw new IllegalArgumentException();
    }
    return numbers.makeDecimal(t, op, first, second, n);
  }

  public long tell(int o, int what)
      throws NoSuchElementException, ClassCastException, IllegalArgumentException {
    Thing t = Thing.find(shelf, o);
    t.needNumber();
    boolean known = t.kind == Thing.WHOLE ? what >= 0 && what <= 5
        : what == 0 || what == 3 || what == 6;
    if (!known) {
      throw new IllegalArgumentException();
    }
    return what == 6 ? t.value : numbers.about(t.num, what);
  }

  public int order(int o, int p) throws NoSuchElementException, ClassCastException {
    Thing t = Thing.find(shelf, o);
    Thing other = Thing.find(shelf, p);
    t.needNumber();
    other.need(t.kind);
    return numbers.compare(t, other);
  }

  public int read(int o, int radix)
      throws NoSuchElementException, ClassCastException, IllegalArgumentException,
          UnsupportedOperationException, ArithmeticException {
    takeTape();
    Thing t = Thing.find(shelf, o);
    needRadix(t, radix);
    return t.kind == Thing.WHOLE ? numbers.readWhole(t.num, radix) : numbers.readDecimal(t);
  }

  public int show(int o, int radix)
      throws NoSuchElementException, ClassCastException, IllegalArgumentException {
    Thing t = Thing.find(shelf, o);
    needRadix(t, radix);
    return numbers.write(t, radix);
  }

  private static void needRadix(Thing t, int radix) {
    t.needNumber();
    if (radix < 2 || radix > 36 || t.kind == Thing.DECIMAL && radix != 10) {
      throw new IllegalArgumentException();
    }
  }

  public long stream()
      throws NoSuchElementException, ClassCastException, IllegalStateException,
          UnsupportedOperationException, ArithmeticException {
    takeTape();
    streams.readAll();
    streams.keepSource();
    int free = streams.makesOne() ? Thing.freePlace(shelf) : -1;
    return streams.play(free);
  }

  public int thread() throws IllegalStateException, UnsupportedOperationException {
    takeTape();
    int instructions = threads.readProgram();
    return threads.begin(instructions);
  }

  public int step(int t) throws IllegalArgumentException {
    needThread(t);
    return threads.act(t);
  }

  private static void needThread(int t) {
    if (t < 0 || t >= Threads.MOST) {
      throw new IllegalArgumentException();
    }
  }

  public int run(int s, int n) throws IllegalArgumentException {
    if (n < 0 || n > 4000) {
      throw new IllegalArgumentException();
    }
    int seed = s;
    for (int done = 0; done < n; done++) {
      int ready = threads.howManyReady();
      if (ready == 0) {
        return done;
      }
      seed = Rows.nextSeed(seed);
      threads.act(threads.readyOne(Rows.drawn(seed, ready)));
    }
    return n;
  }

  public int tick(int n) throws IllegalArgumentException {
    if (n < 0) {
      throw new IllegalArgumentException();
    }
    return threads.pass(n);
  }

  public int interrupt(int t) throws IllegalArgumentException {
    needThread(t);
    return threads.disturb(t);
  }

  public long look(int t, int what) throws IllegalArgumentException {
    needThread(t);
    if (what < 0 || what > 5) {
      throw new IllegalArgumentException();
    }
    return threads.about(t, what);
  }

  public int dead() {
    return threads.leastInRing();
  }

  public long sync(int o, int what)
      throws NoSuchElementException, ClassCastException, IllegalArgumentException,
          UnsupportedOperationException {
    Thing t = Thing.find(shelf, o);
    if (t.kind < Thing.LOCK || t.kind > Thing.FUTURE) {
      throw new ClassCastException();
    }
    if (what < 0 || what > 4) {
      throw new IllegalArgumentException();
    }
    if ((what == 2 || what == 3) && t.kind != Thing.LOCK || what == 4 && t.kind != Thing.QUEUE) {
      throw new UnsupportedOperationException();
    }
    return threads.aboutObject(t, o, what);
  }

  public int date(int y, int m, int d) throws IllegalArgumentException {
    if (y < FIRST_YEAR || y > LAST_YEAR || m < 1 || m > 12 || d < 1 || d > daysOfMonth(y, m)) {
      throw new IllegalArgumentException();
    }
    return dayOf(y, m, d);
  }

  public int part(int day, int what) throws IllegalArgumentException {
    needDay(day);
    if (what < 0 || what > 8) {
      throw new IllegalArgumentException();
    }
    int packed = unfold(day);
    int year = packed >> 9;
    int month = packed >> 5 & 15;
    switch (what) {
      case 0:
        return year;
      case 1:
        return month;
      case 2:
        return packed & 31;
      case 3:
        return dayOfWeek(day);
      case 4:
        return day - dayOf(year, 1, 1) + 1;
      case 5:
        return isLeap(year) ? 1 : 0;
      case 6:
        return (thursdayOf(day) - dayOf(unfold(thursdayOf(day)) >> 9, 1, 1)) / 7 + 1;
      case 7:
        return unfold(thursdayOf(day)) >> 9;
      default:
        return daysOfMonth(year, month);
    }
  }

  public int plus(int day, int unit, int n) throws IllegalArgumentException, ArithmeticException {
    needDay(day);
    if (unit < 0 || unit > 3) {
      throw new IllegalArgumentException();
    }
    return later(day, unit, n);
  }

  public int between(int from, int to, int unit) throws IllegalArgumentException {
    needDay(from);
    needDay(to);
    if (unit < 0 || unit > 3) {
      throw new IllegalArgumentException();
    }
    return from <= to ? unitsUpTo(from, to, unit) : -unitsUpTo(to, from, unit);
  }

  private static void needDay(int day) {
    if (day < dayOf(FIRST_YEAR, 1, 1) || day > dayOf(LAST_YEAR, 12, 31)) {
      throw new IllegalArgumentException();
    }
  }

  private static boolean isLeap(int y) {
    return Math.floorMod(y, 4) == 0 && (Math.floorMod(y, 100) != 0 || Math.floorMod(y, 400) == 0);
  }

  private static int daysOfMonth(int y, int m) {
    if (m == 2) {
      return isLeap(y) ? 29 : 28;
    }
    return m == 4 || m == 6 || m == 9 || m == 11 ? 30 : 31;
  }

  /** The years are counted from March on, so that the leap day is the last one of its year. */
  private static int dayOf(int y, int m, int d) {
    int year = m <= 2 ? y - 1 : y;
    int cycle = Math.floorDiv(year, 400);
    int inCycle = year - cycle * 400;
    int dayOfYear = (153 * (m > 2 ? m - 3 : m + 9) + 2) / 5 + d - 1;
    return cycle * 146097 + inCycle * 365 + inCycle / 4 - inCycle / 100 + dayOfYear - 719468;
  }

  /** The year, the month and the day of the month in one number: year * 512 + month * 32 + day. */
  private static int unfold(int day) {
    int shifted = day + 719468;
    int cycle = Math.floorDiv(shifted, 146097);
    int inCycle = shifted - cycle * 146097;
    int year = (inCycle - inCycle / 1460 + inCycle / 36524 - inCycle / 146096) / 365;
    int dayOfYear = inCycle - (365 * year + year / 4 - year / 100);
    int m = (5 * dayOfYear + 2) / 153;
    int d = dayOfYear - (153 * m + 2) / 5 + 1;
    int month = m < 10 ? m + 3 : m - 9;
    int y = year + cycle * 400 + (month <= 2 ? 1 : 0);
    return y * 512 + month * 32 + d;
  }

  private static int dayOfWeek(int day) {
    return Math.floorMod(day + 3, 7) + 1;
  }

  /** By ISO 8601 a week is of the year that its Thursday is in. */
  private static int thursdayOf(int day) {
    return day - dayOfWeek(day) + 4;
  }

  private static int later(int day, int unit, int n) {
    if (unit <= 1) {
      long sum = day + (unit == 0 ? (long) n : 7L * n);
      if (sum < dayOf(FIRST_YEAR, 1, 1) || sum > dayOf(LAST_YEAR, 12, 31)) {
        throw new ArithmeticException();
      }
      return (int) sum;
    }
    int packed = unfold(day);
    long months = (packed >> 9) * 12L + (packed >> 5 & 15) - 1 + (unit == 2 ? (long) n : 12L * n);
    long year = Math.floorDiv(months, 12L);
    if (year < FIRST_YEAR || year > LAST_YEAR) {
      throw new ArithmeticException();
    }
    int y = (int) year;
    int m = (int) (months - year * 12) + 1;
    return dayOf(y, m, Math.min(packed & 31, daysOfMonth(y, m)));
  }

  /** From is not behind to, so that no day on the way is out of the years. */
  private static int unitsUpTo(int from, int to, int unit) {
    if (unit <= 1) {
      return unit == 0 ? to - from : (to - from) / 7;
    }
    int first = unfold(from);
    int last = unfold(to);
    int n = (last >> 9) - (first >> 9);
    if (unit == 2) {
      n = n * 12 + (last >> 5 & 15) - (first >> 5 & 15);
    }
    return n > 0 && later(from, unit, n) > to ? n - 1 : n;
  }

  public long word(int i) throws IndexOutOfBoundsException {
    if (i < 0 || i >= out.size) {
      throw new IndexOutOfBoundsException();
    }
    long v = 0;
    for (int k = i; k < i + 8; k++) {
      v = v << 8 | Math.max(out.get(k), 0);
    }
    return v;
  }

  public long count(int what) throws IllegalArgumentException {
    if (what < 0 || what > 5 && what < 10 || what >= 10 + Thing.PLACES) {
      throw new IllegalArgumentException();
    }
    switch (what) {
      case 0:
        return tape.size;
      case 1:
        return out.size;
      case 2:
        return Thing.howMany(shelf);
      case 3:
        return taken.fault;
      case 4:
        return streams.called;
      case 5:
        return threads.clock;
      default:
        return shelf[what - 10].kind;
    }
  }

  /** One OBJECT. Its rows stay with the place on the shelf, so that one made later uses them again. */
  static final class Thing {
    static final int PLACES = 24;
    static final long NONE = 1L << 40;
    static final int LIST = 0;
    static final int RING = 1;
    static final int HASH = 2;
    static final int LINKED = 3;
    static final int TREE = 4;
    static final int HEAP = 5;
    static final int BITS = 6;
    static final int TEXT = 7;
    static final int PATTERN = 8;
    static final int CURSOR = 9;
    static final int VIEW = 10;
    static final int WHOLE = 11;
    static final int DECIMAL = 12;
    static final int LOCK = 13;
    static final int SEMAPHORE = 14;
    static final int LATCH = 15;
    static final int BARRIER = 16;
    static final int QUEUE = 17;
    static final int CELL = 18;
    static final int FUTURE = 19;
    static final int SUBMAP = 20;

    int kind = -1;
    /** Of a VIEW, SUBMAP or CURSOR: the OBJECT that it is of. */
    int parent;
    /** Of these: the LIST or MAP that has the rows; of others: itself. */
    Thing root;
    int[] row = new int[0];
    int[] vals = new int[0];
    long[] longs = new long[0];
    final Bytes bytes = new Bytes();
    final Big num = new Big(Big.WHOLE_LIMBS);
    int size;
    /** CAPACITY, or the LIMIT of a LINKED. */
    int cap;
    /** ORDER, RULE, FAIR, or whether a LINKED goes by use. */
    int rule;
    /** TABLE of a HASH. */
    int table;
    int changes;
    /** The CHANGES of the root that a VIEW or CURSOR knows of. */
    int seen;
    /** The first place of a VIEW in its LIST, the place of a CURSOR. */
    int at;
    int passed;
    /** VALUE, PERMITS, COUNT, what is left, or the SCALE of a DECIMAL. */
    int value;
    int owner;
    /** Where a SUBMAP begins and ends in the TREE, as edges tells. */
    int lo;
    int hi;
    int edges;

    /** Whether a and b are in the range that a KIND has for them. */
    static boolean mayBe(int kind, int a, int b) {
      switch (kind) {
        case LIST:
        case RING:
          return a >= 0 && a <= 1000;
        case HASH:
          return a >= 0 && a <= 1000 && b >= 0 && b <= 3;
        case LINKED:
          return a >= 0 && a <= 1000 && (b == 0 || b == 1);
        case TREE:
          return a >= 0 && a <= 3;
        case HEAP:
          return a >= 1 && a <= 1000 && b >= 0 && b <= 3;
        case LOCK:
          return b == 0 || b == 1;
        case LATCH:
          return a >= 0;
        case BARRIER:
          return a >= 1 && a <= 8;
        case QUEUE:
          return a >= 1 && a <= 100;
        default:
          return true;
      }
    }

    void renew(int newKind, int a, int b) {
      kind = newKind;
      parent = -1;
      root = this;
      size = 0;
      cap = a;
      if (newKind == RING) {
        cap = 8;
        while (cap <= a && cap < 1 << 20) {
          cap *= 2;
        }
      }
      rule = newKind == TREE ? a : b;
      table = 0;
      changes = 0;
      seen = 0;
      at = 0;
      passed = -1;
      value = newKind == DECIMAL || newKind == LOCK ? 0 : a;
      owner = -1;
      edges = 0;
      bytes.size = 0;
      num.become(0);
      if (newKind == BITS) {
        roomOfLongs(64);
      } else if (newKind == HASH) {
        roomOfLongs(32);
      }
      Arrays.fill(longs, 0);
    }

    void partOf(Thing t, int o) {
      parent = o;
      root = t.root;
      seen = root.changes;
    }

    void room(int n) {
      row = grown(row, n);
    }

    void roomOfVals(int n) {
      vals = grown(vals, n);
    }

    void roomOfLongs(int n) {
      if (longs.length < n) {
        longs = Arrays.copyOf(longs, Math.max(n, longs.length * 2));
      }
    }

    /** Twice as long as before at least, so that a run makes few rows. */
    static int[] grown(int[] row, int n) {
      return row.length >= n ? row : Arrays.copyOf(row, Math.max(Math.max(n, 8), row.length * 2));
    }

    boolean isRow() {
      return kind == LIST || kind == VIEW;
    }

    boolean isMap() {
      return kind == HASH || kind == LINKED || kind == TREE || kind == SUBMAP;
    }

    void need(int asked) {
      if (kind != asked) {
        throw new ClassCastException();
      }
    }

    void needRow() {
      if (!isRow()) {
        throw new ClassCastException();
      }
    }

    void needMap() {
      if (!isMap()) {
        throw new ClassCastException();
      }
    }

    void needNumber() {
      if (kind != WHOLE && kind != DECIMAL) {
        throw new ClassCastException();
      }
    }

    void needFresh() {
      if ((kind == VIEW || kind == CURSOR) && seen != root.changes) {
        throw new IllegalStateException();
      }
    }

    static Thing find(Thing[] shelf, int o) {
      if (o < 0 || o >= shelf.length || shelf[o].kind < 0) {
        throw new NoSuchElementException();
      }
      return shelf[o];
    }

    static int freePlace(Thing[] shelf) {
      for (int i = 0; i < shelf.length; i++) {
        if (shelf[i].kind < 0) {
          return i;
        }
      }
      throw new IllegalStateException();
    }

    static int howMany(Thing[] shelf) {
      int n = 0;
      for (Thing t : shelf) {
        n += t.kind < 0 ? 0 : 1;
      }
      return n;
    }

    /** Each turn finds the parts of those that the turns before found. */
    static int clearAway(Thing[] shelf, int o) {
      int going = 1 << o;
      for (int turn = 0; turn < shelf.length; turn++) {
        for (int i = 0; i < shelf.length; i++) {
          Thing t = shelf[i];
          if (t.kind >= 0 && t.parent >= 0 && (going >> t.parent & 1) != 0) {
            going |= 1 << i;
          }
        }
      }
      for (int i = 0; i < shelf.length; i++) {
        if ((going >> i & 1) != 0) {
          shelf[i].kind = -1;
        }
      }
      return Integer.bitCount(going);
    }
  }

  /** A row of bytes; THE TAPE is read from one by its words, numbers and signs. */
  static final class Bytes {
    static final int MOST = 4000;
    byte[] row = new byte[0];
    int size;
    /** Where reading stands. */
    int at;
    /** The sign that parts one thing from the next as a blank does; -1 for none. */
    private int parting = -1;
    /** PLACE of the first byte that could not stand there, -1 for none. */
    int fault = -1;

    /** The byte at i, -1 where there is none. */
    int get(int i) {
      return i >= 0 && i < size && i < row.length ? row[i] & 255 : -1;
    }

    void room(int n) {
      if (row.length < n) {
        row = Arrays.copyOf(row, Math.max(Math.max(n, 16), row.length * 2));
      }
    }

    void add(int b) {
      room(size + 1);
      row[size++] = (byte) b;
    }

    void addInt(int v) {
      add(v >> 24);
      add(v >> 16);
      add(v >> 8);
      add(v);
    }

    void addText(String s) {
      for (int i = 0; i < s.length(); i++) {
        add(s.charAt(i));
      }
    }

    /** Bytes from .. to - 1 of another one. */
    void addPart(Bytes o, int from, int to) {
      room(size + to - from);
      System.arraycopy(o.row, from, row, size, to - from);
      size += to - from;
    }

    void copy(Bytes o) {
      size = 0;
      addPart(o, 0, o.size);
    }

    /** Another one's bytes come instead of those from .. to - 1. */
    void splice(int from, int to, Bytes o) {
      int n = size - (to - from) + o.size;
      room(n);
      System.arraycopy(row, to, row, from + o.size, size - to);
      System.arraycopy(o.row, 0, row, from, o.size);
      size = n;
    }

    void swap(Bytes o) {
      byte[] other = o.row;
      int n = o.size;
      o.row = row;
      o.size = size;
      row = other;
      size = n;
    }

    void turnRound(int from) {
      for (int i = from, k = size - 1; i < k; i++, k--) {
        byte b = row[i];
        row[i] = row[k];
        row[k] = b;
      }
    }

    /** Answers nothing; the int lets a caller write return in front. */
    int broken(int place) {
      fault = place;
      throw new UnsupportedOperationException();
    }

    /** It is read from its first byte on. */
    void begin() {
      at = 0;
      parting = -1;
      fault = -1;
    }

    /** Around this sign blanks may stand and need not. */
    void partBy(int sign) {
      parting = sign;
    }

    /** To the first byte of what comes next. */
    void skip() {
      while (at < size && get(at) == ' ') {
        at++;
      }
    }

    /** The place behind what begins here: all of it up to a blank is one word, number or sign, or none. */
    private int behind() {
      int to = at;
      while (to < size && get(to) != ' ' && get(to) != parting) {
        to++;
      }
      return to;
    }

    /** Whether the sign that parts comes next. */
    boolean goesOn() {
      skip();
      if (at >= size || get(at) != parting) {
        return false;
      }
      at++;
      return true;
    }

    /** Nothing but blanks stands behind what was read. */
    void needEnd() {
      skip();
      if (at < size) {
        broken(at);
      }
    }

    /** Which one of words, with a blank between, comes next; -1 for none, and nothing is read then. */
    int known(String words) {
      skip();
      int to = behind();
      int from = 0;
      int index = 0;
      for (int i = 0; i <= words.length(); i++) {
        if (i == words.length() || words.charAt(i) == ' ') {
          if (i - from == to - at && isNext(words, from, i)) {
            at = to;
            return index;
          }
          from = i + 1;
          index++;
        }
      }
      return -1;
    }

    private boolean isNext(String words, int from, int to) {
      for (int i = from; i < to; i++) {
        if (get(at + i - from) != words.charAt(i)) {
          return false;
        }
      }
      return true;
    }

    /** Which one of these signs comes next; -1 for none, and nothing is read then. */
    int sign(String signs) {
      skip();
      int index = behind() == at + 1 ? signs.indexOf((char) get(at)) : -1;
      if (index >= 0) {
        at++;
      }
      return index;
    }

    int number(int least, int most) {
      skip();
      int to = behind();
      boolean minus = get(at) == '-';
      int p = minus ? at + 1 : at;
      int first = p;
      int v = 0;
      while (p < to && get(p) >= '0' && get(p) <= '9') {
        v = p - first < 9 ? v * 10 + get(p) - '0' : v;
        p++;
      }
      v = minus ? -v : v;
      if (p < to || p == first || p - first > 9 || v < least || v > most) {
        return broken(at);
      }
      at = to;
      return v;
    }
  }

  /** What LISTS, VIEWS of them, RINGS and HEAPS do with their rows. */
  static final class Rows {
    static final int MOST = 2000;
    private final Thing[] shelf;
    private int[] kept = new int[0];
    private int[] spare = new int[0];

    Rows(Thing[] shelf) {
      this.shelf = shelf;
    }

    /** Below 0 if x is before y in an ORDER, 0 if they are alike. */
    static int compare(int order, int x, int y) {
      switch (order) {
        case 1:
          return Integer.compare(y, x);
        case 2:
          int c = Long.compare(Math.abs((long) x), Math.abs((long) y));
          return c != 0 ? c : Integer.compare(x, y);
        case 3:
          return Integer.compare(Math.floorMod(x, 10), Math.floorMod(y, 10));
        default:
          return Integer.compare(x, y);
      }
    }

    /** Sorts n of a row by merging, which is stable; spare has n places too. */
    static void sort(int[] row, int from, int n, int order, int[] spare) {
      for (int width = 1; width < n; width *= 2) {
        for (int left = 0; left < n; left += 2 * width) {
          int middle = Math.min(left + width, n);
          int end = Math.min(left + 2 * width, n);
          int i = left;
          int k = middle;
          for (int to = left; to < end; to++) {
            boolean first = i < middle
                && (k >= end || compare(order, row[from + i], row[from + k]) <= 0);
            spare[to] = first ? row[from + i++] : row[from + k++];
          }
        }
        System.arraycopy(spare, 0, row, from, n);
      }
    }

    static int nextSeed(int seed) {
      return seed * 1103515245 + 12345;
    }

    /** The number DRAWN from n, above 0, by a SEED that was just made. */
    static int drawn(int seed, int n) {
      return n > 0 ? (seed >>> 8) % n : 0;
    }

    long answer(Thing t, int op, int a, int b, Thing other) {
      switch (op) {
        case 0:
          return come(t, t.size, a);
        case 1:
          return come(t, a, b);
        case 2:
        case 3:
        case 4:
          return atPlace(t, op, a, b);
        case 5:
        case 6:
        case 7:
        case 18:
        case 20:
          return byElement(t, op, a, b);
        case 8:
          return goes(t, 0, t.size);
        case 9:
          return comeAll(t, a, other);
        case 10:
        case 11:
          return sift(t, other, op == 11);
        case 16:
          return change(t, a, b);
        case 19:
          return halve(t, a, b);
        case 21:
        case 22:
          return utmost(t, op == 21 ? 1 : -1);
        case 23:
          return nextRow(t);
        case 24:
          return t.size;
        case 25:
          return hash(t);
        case 26:
          return same(t, other);
        case 27:
        case 28:
        case 29:
          return capacity(t, op, a);
        case 30:
          return cutOut(t, a, b);
        default:
          return arrange(t, op, a);
      }
    }

    private static void needPlace(Thing t, int place) {
      if (place < 0 || place >= t.size) {
        throw new IndexOutOfBoundsException();
      }
    }

    private static void due(Thing list, int n) {
      if (n > list.cap) {
        list.cap = Math.max(Math.max(n, list.cap + list.cap / 2), 10);
      }
    }

    /** Makes room for n at a place. */
    private void open(Thing t, int place, int n) {
      Thing list = t.root;
      int from = t.at + place;
      due(list, list.size + n);
      list.room(list.size + n);
      System.arraycopy(list.row, from, list.row, from + n, list.size - from);
      grew(t, n);
    }

    private long goes(Thing t, int place, int n) {
      Thing list = t.root;
      int from = t.at + place;
      System.arraycopy(list.row, from + n, list.row, from, list.size - from - n);
      grew(t, -n);
      return n;
    }

    /** A change of size; the VIEW that did it and those that it is of know of it. */
    private void grew(Thing t, int n) {
      if (n == 0) {
        return;
      }
      Thing list = t.root;
      list.size += n;
      list.changes++;
      Thing v = t;
      for (int i = 0; i < Thing.PLACES && v.kind == Thing.VIEW; i++) {
        v.size += n;
        v.seen = list.changes;
        v = v.parent >= 0 ? shelf[v.parent] : list;
      }
    }

    private long come(Thing t, int place, int element) {
      if (place < 0 || place > t.size) {
        throw new IndexOutOfBoundsException();
      }
      if (t.root.size >= MOST) {
        throw new IllegalStateException();
      }
      open(t, place, 1);
      t.root.row[t.at + place] = element;
      return t.size;
    }

    private long comeAll(Thing t, int place, Thing other) {
      int n = other.size;
      if (place < 0 || place > t.size) {
        throw new IndexOutOfBoundsException();
      }
      if (t.root.size + n > MOST) {
        throw new IllegalStateException();
      }
      keep(other);
      open(t, place, n);
      System.arraycopy(kept, 0, t.root.row, t.at + place, n);
      return n;
    }

    /** What a row has now, for a change that may be of the row itself. */
    private void keep(Thing t) {
      kept = Thing.grown(kept, t.size);
      System.arraycopy(t.root.row, t.at, kept, 0, t.size);
    }

    private long atPlace(Thing t, int op, int place, int element) {
      needPlace(t, place);
      int was = t.root.row[t.at + place];
      if (op == 3) {
        t.root.row[t.at + place] = element;
      } else if (op == 4) {
        goes(t, place, 1);
      }
      return was;
    }

    private long byElement(Thing t, int op, int a, int b) {
      int[] row = t.root.row;
      int first = -1;
      int last = -1;
      int n = 0;
      for (int i = 0; i < t.size; i++) {
        if (row[t.at + i] == a) {
          first = first < 0 ? i : first;
          last = i;
          n++;
          if (op == 18) {
            row[t.at + i] = b;
          }
        }
      }
      if (op == 5 && first >= 0) {
        goes(t, first, 1);
      }
      return op == 5 ? Math.min(n, 1) : op == 6 ? first : op == 7 ? last : n;
    }

    /** Only those stay that the other row has, or only those that it has not. */
    private long sift(Thing t, Thing other, boolean having) {
      int n = other.size;
      keep(other);
      spare = Thing.grown(spare, n);
      sort(kept, 0, n, 0, spare);
      int[] row = t.root.row;
      int stay = 0;
      for (int i = 0; i < t.size; i++) {
        int element = row[t.at + i];
        int p = firstNotBelow(kept, n, element);
        if ((p < n && kept[p] == element) == having) {
          row[t.at + stay++] = element;
        }
      }
      return goes(t, stay, t.size - stay);
    }

    /** In a row in rising order: the first place of one that is not below an element. */
    static int firstNotBelow(int[] row, int n, int element) {
      int from = 0;
      int to = n;
      while (from < to) {
        int m = (from + to) / 2;
        if (row[m] < element) {
          from = m + 1;
        } else {
          to = m;
        }
      }
      return from;
    }

    /** Ops 12 .. 15 and 17, which leave the size as it is. */
    private long arrange(Thing t, int op, int a) {
      int n = t.size;
      int[] row = t.root.row;
      if (op == 12) {
        spare = Thing.grown(spare, n);
        sort(row, t.at, n, a, spare);
      } else if (op == 13) {
        turnRound(row, t.at, t.at + n - 1);
      } else if (op == 14 && n > 0) {
        keep(t);
        int by = Math.floorMod(a, n);
        System.arraycopy(kept, 0, row, t.at + by, n - by);
        System.arraycopy(kept, n - by, row, t.at, by);
      } else if (op == 15) {
        int seed = a;
        for (int i = n - 1; i >= 1; i--) {
          seed = nextSeed(seed);
          exchange(row, t.at + i, t.at + drawn(seed, i + 1));
        }
      } else if (op == 17) {
        Arrays.fill(row, t.at, t.at + n, a);
      }
      return n;
    }

    private static void turnRound(int[] row, int from, int to) {
      for (int i = from, k = to; i < k; i++, k--) {
        exchange(row, i, k);
      }
    }

    private static void exchange(int[] row, int i, int k) {
      int element = row[i];
      row[i] = row[k];
      row[k] = element;
    }

    private long change(Thing t, int a, int b) {
      needPlace(t, a);
      needPlace(t, b);
      exchange(t.root.row, t.at + a, t.at + b);
      return t.size;
    }

    private long halve(Thing t, int a, int order) {
      int from = 0;
      int to = t.size - 1;
      while (from <= to) {
        int m = (from + to) / 2;
        int c = compare(order, t.root.row[t.at + m], a);
        if (c == 0) {
          return m;
        }
        if (c < 0) {
          from = m + 1;
        } else {
          to = m - 1;
        }
      }
      return -1 - from;
    }

    private long utmost(Thing t, int way) {
      if (t.size == 0) {
        throw new NoSuchElementException();
      }
      int best = t.root.row[t.at];
      for (int i = 1; i < t.size; i++) {
        int element = t.root.row[t.at + i];
        best = Integer.compare(element, best) * way < 0 ? element : best;
      }
      return best;
    }

    /** The last place that is below its follower rises by the least that can be. */
    private long nextRow(Thing t) {
      int[] row = t.root.row;
      int last = t.at + t.size - 1;
      int i = last - 1;
      while (i >= t.at && row[i] >= row[i + 1]) {
        i--;
      }
      if (i >= t.at) {
        int k = last;
        while (k > i && row[k] <= row[i]) {
          k--;
        }
        exchange(row, i, k);
      }
      turnRound(row, Math.max(i, t.at - 1) + 1, last);
      return i >= t.at ? 1 : 0;
    }

    private static long hash(Thing t) {
      int h = 1;
      for (int i = 0; i < t.size; i++) {
        h = 31 * h + t.root.row[t.at + i];
      }
      return h;
    }

    private static long same(Thing t, Thing other) {
      if (t.size != other.size) {
        return 0;
      }
      for (int i = 0; i < t.size; i++) {
        if (t.root.row[t.at + i] != other.root.row[other.at + i]) {
          return 0;
        }
      }
      return 1;
    }

    private static long capacity(Thing t, int op, int a) {
      if (op == 28) {
        due(t, a);
      } else if (op == 29) {
        t.cap = t.size;
      }
      return t.cap;
    }

    private long cutOut(Thing t, int a, int b) {
      if (a < 0 || b < a || b > t.size) {
        throw new IndexOutOfBoundsException();
      }
      return goes(t, a, b - a);
    }

    /** What a CURSOR does on a LIST or VIEW; the caller knows that one is PASSED where one must be. */
    long walk(Thing c, Thing t, int op, int a) {
      switch (op) {
        case 0:
          needNext(c.at < t.size);
          c.passed = c.at++;
          return t.root.row[t.at + c.passed];
        case 1:
          needNext(c.at > 0);
          c.passed = --c.at;
          return t.root.row[t.at + c.passed];
        case 2:
          return c.at < t.size ? 1 : 0;
        case 3:
          return c.at > 0 ? 1 : 0;
        case 4:
          return c.at;
        case 5:
          long gone = atPlace(t, 4, c.passed, 0);
          c.at -= c.passed < c.at ? 1 : 0;
          c.passed = -1;
          c.seen = t.root.changes;
          return gone;
        case 6:
          return atPlace(t, 3, c.passed, a);
        default:
          come(t, c.at, a);
          c.at++;
          c.passed = -1;
          c.seen = t.root.changes;
          return t.size;
      }
    }

    private static void needNext(boolean one) {
      if (!one) {
        throw new NoSuchElementException();
      }
    }

    long answerRing(Thing t, int op, int a) {
      switch (op) {
        case 0:
        case 1:
          return comeToRing(t, op == 0 ? 0 : t.size, a);
        case 2:
        case 3:
        case 4:
        case 5:
          needNext(t.size > 0);
          return atPlace(t, op <= 3 ? 4 : 2, op % 2 == 0 ? 0 : t.size - 1, 0);
        case 6:
          return t.size;
        case 7:
          return t.cap;
        case 8:
          return byElement(t, 5, a, 0);
        case 9:
          int last = (int) byElement(t, 7, a, 0);
          return last < 0 ? 0 : goes(t, last, 1);
        case 10:
          return byElement(t, 6, a, 0);
        case 11:
          return atPlace(t, 2, a, 0);
        case 12:
          return goes(t, 0, t.size);
        case 13:
          return arrange(t, 14, t.size > 0 ? -Math.floorMod(a, t.size) : 0);
        default:
          return hash(t);
      }
    }

    private long comeToRing(Thing t, int place, int element) {
      if (t.size >= MOST) {
        throw new IllegalStateException();
      }
      t.room(t.size + 1);
      System.arraycopy(t.row, place, t.row, place + 1, t.size - place);
      t.row[place] = element;
      t.size++;
      if (t.size == t.cap) {
        t.cap *= 2;
      }
      return t.size;
    }

    /** The row of a HEAP is in the order of coming, so that of those alike the first one is found. */
    long answerHeap(Thing t, int op, int a, Thing other) {
      switch (op) {
        case 0:
          needHeapRoom(t, 1);
          t.row[t.size++] = a;
          return t.size;
        case 1:
        case 2:
          needNext(t.size > 0);
          return atPlace(t, op == 1 ? 4 : 2, firstInOrder(t), 0);
        case 3:
          return byElement(t, 5, a, 0);
        case 4:
          return t.size;
        case 5:
          return t.cap;
        case 6:
          return goes(t, 0, t.size);
        default:
          needHeapRoom(t, other.size);
          System.arraycopy(other.root.row, other.at, t.row, t.size, other.size);
          t.size += other.size;
          return t.size;
      }
    }

    private static void needHeapRoom(Thing t, int n) {
      int due = t.size + n;
      if (due > MOST) {
        throw new IllegalStateException();
      }
      if (due > t.cap) {
        t.cap = Math.max(due, t.cap < 64 ? 2 * t.cap + 2 : t.cap + t.cap / 2);
      }
      t.room(due);
    }

    private static int firstInOrder(Thing t) {
      int best = 0;
      for (int i = 1; i < t.size; i++) {
        best = compare(t.rule, t.row[i], t.row[best]) < 0 ? i : best;
      }
      return best;
    }
  }

  /** What HASH, LINKED, TREE and SUBMAP do: each has its keys in a row in its order. */
  static final class Maps {
    static final int MOST = 1000;
    private static final int LO = 1;
    private static final int LO_ITSELF = 2;
    private static final int HI = 4;
    private static final int HI_ITSELF = 8;
    private static final int TURNED = 16;
    private int[] keptKeys = new int[0];
    private int[] keptVals = new int[0];
    private int[] laterKeys = new int[0];
    private int[] laterVals = new int[0];

    long answer(Thing t, int op, int a, int b, Thing other) {
      switch (op) {
        case 0:
        case 6:
        case 7:
          return put(t, op, a, b);
        case 1:
          return valueOf(t, a);
        case 2:
          return takeOut(t, a);
        case 3:
          return find(t, a) >= 0 ? 1 : 0;
        case 4:
          return sizeOf(t);
        case 5:
          return empty(t);
        case 8:
          return raise(t, a, b);
        case 9:
          return howManyWith(t, a);
        case 10:
        case 11:
        case 12:
        case 13:
          return atEnd(t, op);
        case 14:
        case 15:
        case 16:
        case 17:
          return nearest(t, op, a);
        case 18:
          return sum(t);
        case 19:
          return same(t, other);
        case 21:
          return t.table;
        case 22:
          return bushy(t);
        default:
          return before(t, a);
      }
    }

    // where keys stand

    /** The place in the TREE's row where a SUBMAP begins; of others 0. */
    private int first(Thing t) {
      if ((t.edges & LO) == 0) {
        return 0;
      }
      return edge(t.root, t.lo, (t.edges & LO_ITSELF) == 0);
    }

    /** The place behind the last one; of a SUBMAP that can have no key it may be below first. */
    private int limit(Thing t) {
      return (t.edges & HI) == 0 ? t.root.size : edge(t.root, t.hi, (t.edges & HI_ITSELF) != 0);
    }

    int sizeOf(Thing t) {
      return Math.max(limit(t) - first(t), 0);
    }

    private static boolean isTurned(Thing t) {
      return (t.edges & TURNED) != 0;
    }

    /** The place in the row of the root of the i-th key in order. */
    int placeOf(Thing t, int i) {
      return isTurned(t) ? limit(t) - 1 - i : first(t) + i;
    }

    /** In a TREE: the first place of a key that is not before this one, or that is behind it. */
    private static int edge(Thing tree, int key, boolean behind) {
      int from = 0;
      int to = tree.size;
      while (from < to) {
        int m = (from + to) / 2;
        if (Rows.compare(tree.rule, tree.row[m], key) < (behind ? 1 : 0)) {
          from = m + 1;
        } else {
          to = m;
        }
      }
      return from;
    }

    private static int binOf(Thing hash, int key) {
      int h = hash.rule == 0 ? key
          : hash.rule == 1 ? Math.floorMod(key, 16)
          : hash.rule == 2 ? 7 : key * -1640531527;
      return (h ^ h >>> 16) & hash.table - 1;
    }

    /** In a HASH: the first place of a key of this BIN or a later one. */
    private static int binStart(Thing hash, int bin) {
      int from = 0;
      int to = hash.size;
      while (from < to) {
        int m = (from + to) / 2;
        if (binOf(hash, hash.row[m]) < bin) {
          from = m + 1;
        } else {
          to = m;
        }
      }
      return from;
    }

    /** The place of a key in the row of the root, -1 if t has it not. */
    int find(Thing t, int key) {
      Thing m = t.root;
      if (m.kind == Thing.TREE) {
        int i = edge(m, key, false);
        boolean there = i < m.size && Rows.compare(m.rule, m.row[i], key) == 0;
        return there && isInside(t, key) ? i : -1;
      }
      int from = m.kind == Thing.HASH ? binStart(m, binOf(m, key)) : 0;
      int to = m.kind == Thing.HASH ? binStart(m, binOf(m, key) + 1) : m.size;
      for (int i = from; i < to; i++) {
        if (m.row[i] == key) {
          return i;
        }
      }
      return -1;
    }

    // keys come and go

    private void insert(Thing m, int i, int key, int value) {
      m.room(m.size + 1);
      m.roomOfVals(m.size + 1);
      System.arraycopy(m.row, i, m.row, i + 1, m.size - i);
      System.arraycopy(m.vals, i, m.vals, i + 1, m.size - i);
      m.row[i] = key;
      m.vals[i] = value;
      m.size++;
      m.changes++;
    }

    private void enter(Thing m, int key, int value) {
      if (m.kind == Thing.TREE) {
        insert(m, edge(m, key, false), key, value);
        return;
      }
      if (m.kind == Thing.LINKED) {
        insert(m, m.size, key, value);
        if (m.cap > 0 && m.size > m.cap) {
          remove(m, 0);
        }
        return;
      }
      if (m.table == 0) {
        m.table = powerFrom(m.cap);
      }
      int bin = binOf(m, key);
      int end = binStart(m, bin + 1);
      int before = end - binStart(m, bin);
      insert(m, end, key, value);
      if (before >= 8 && m.table < 64) {
        doubleTable(m);
      } else if (before >= 8) {
        setBushy(m, bin, true);
      }
      if (m.size * 4 > m.table * 3) {
        doubleTable(m);
      }
    }

    /** The least power of 2 that is at least n and 1. */
    private static int powerFrom(int n) {
      int power = 1;
      while (power < n && power < 1 << 30) {
        power *= 2;
      }
      return power;
    }

    /** A BIN's keys go to the BIN of the same number or to that one a TABLE further. */
    private void doubleTable(Thing m) {
      int old = m.table;
      m.table = old * 2;
      laterKeys = Thing.grown(laterKeys, m.size);
      laterVals = Thing.grown(laterVals, m.size);
      int stay = 0;
      int go = 0;
      for (int i = 0; i < m.size; i++) {
        if (binOf(m, m.row[i]) < old) {
          m.row[stay] = m.row[i];
          m.vals[stay++] = m.vals[i];
        } else {
          laterKeys[go] = m.row[i];
          laterVals[go++] = m.vals[i];
        }
      }
      System.arraycopy(laterKeys, 0, m.row, stay, go);
      System.arraycopy(laterVals, 0, m.vals, stay, go);
      for (int bin = 0; bin < old; bin++) {
        if (isBushy(m, bin)) {
          int middle = binStart(m, bin + 1);
          setBushy(m, bin, middle - binStart(m, bin) > 6);
          int last = binStart(m, bin + old + 1);
          setBushy(m, bin + old, last - binStart(m, bin + old) > 6);
        }
      }
    }

    private static boolean isBushy(Thing m, int bin) {
      return bin < 64 * m.longs.length && (m.longs[bin / 64] >> bin % 64 & 1) != 0;
    }

    private static void setBushy(Thing m, int bin, boolean bushy) {
      m.roomOfLongs(bin / 64 + 1);
      if (bushy) {
        m.longs[bin / 64] |= 1L << bin % 64;
      } else {
        m.longs[bin / 64] &= ~(1L << bin % 64);
      }
    }

    private void remove(Thing m, int i) {
      int key = m.row[i];
      System.arraycopy(m.row, i + 1, m.row, i, m.size - i - 1);
      System.arraycopy(m.vals, i + 1, m.vals, i, m.size - i - 1);
      m.size--;
      m.changes++;
      if (m.kind == Thing.HASH && isBushy(m, binOf(m, key))) {
        int bin = binOf(m, key);
        setBushy(m, bin, binStart(m, bin + 1) - binStart(m, bin) > 6);
      }
    }

    private long empty(Thing t) {
      Thing m = t.root;
      int from = first(t);
      int to = limit(t);
      if (from < to) {
        System.arraycopy(m.row, to, m.row, from, m.size - to);
        System.arraycopy(m.vals, to, m.vals, from, m.size - to);
        m.size -= to - from;
        m.changes++;
        Arrays.fill(m.longs, 0);
      }
      return Math.max(to - from, 0);
    }

    /** A LINKED that goes by use: the key that was found goes to the end. */
    private void use(Thing m, int i) {
      if (m.kind != Thing.LINKED || m.rule != 1 || i == m.size - 1) {
        return;
      }
      int key = m.row[i];
      int value = m.vals[i];
      remove(m, i);
      insert(m, m.size, key, value);
    }

    /** Looks whether a new key may come to t. */
    private void needRoom(Thing t, int key) {
      if (!isInside(t, key)) {
        throw new IllegalArgumentException();
      }
      if (t.root.size >= MOST && !dropsFirst(t)) {
        throw new IllegalStateException();
      }
    }

    private static boolean dropsFirst(Thing t) {
      return t.kind == Thing.LINKED && t.cap > 0;
    }

    private long put(Thing t, int op, int key, int value) {
      Thing m = t.root;
      int i = find(t, key);
      if (i >= 0) {
        long was = m.vals[i];
        m.vals[i] = op == 6 ? m.vals[i] : value;
        use(m, i);
        return was;
      }
      if (op != 7) {
        needRoom(t, key);
        enter(m, key, value);
      }
      return Thing.NONE;
    }

    private long valueOf(Thing t, int key) {
      int i = find(t, key);
      if (i < 0) {
        return Thing.NONE;
      }
      int value = t.root.vals[i];
      use(t.root, i);
      return value;
    }

    private long takeOut(Thing t, int key) {
      int i = find(t, key);
      if (i < 0) {
        return Thing.NONE;
      }
      int value = t.root.vals[i];
      remove(t.root, i);
      return value;
    }

    long raise(Thing t, int key, int by) {
      Thing m = t.root;
      int i = find(t, key);
      if (i < 0) {
        needRoom(t, key);
        enter(m, key, by);
        return by;
      }
      int value = m.vals[i] + by;
      if (value == 0) {
        remove(m, i);
        return Thing.NONE;
      }
      m.vals[i] = value;
      use(m, i);
      return value;
    }

    private long howManyWith(Thing t, int value) {
      int n = 0;
      int to = limit(t);
      for (int i = first(t); i < to; i++) {
        n += t.root.vals[i] == value ? 1 : 0;
      }
      return n;
    }

    private long atEnd(Thing t, int op) {
      int n = sizeOf(t);
      if (n == 0) {
        throw new NoSuchElementException();
      }
      int i = placeOf(t, op == 10 || op == 12 ? 0 : n - 1);
      int key = t.root.row[i];
      if (op >= 12) {
        remove(t.root, i);
      }
      return key;
    }

    /** Turned round, before is behind: 14 and 17 change places, and so do 15 and 16. */
    private long nearest(Thing t, int op, int key) {
      Thing m = t.root;
      int how = isTurned(t) ? 31 - op : op;
      int cut = edge(m, key, how == 15 || how == 17);
      int i = how <= 15 ? Math.min(cut, limit(t)) - 1 : Math.max(cut, first(t));
      return i >= first(t) && i < limit(t) ? m.row[i] : Thing.NONE;
    }

    private long before(Thing t, int key) {
      int from = first(t);
      int to = limit(t);
      int cut = Math.min(Math.max(edge(t.root, key, isTurned(t)), from), to);
      return Math.max(isTurned(t) ? to - cut : cut - from, 0);
    }

    private long sum(Thing t) {
      int sum = 0;
      int to = limit(t);
      for (int i = first(t); i < to; i++) {
        sum += t.root.row[i] ^ t.root.vals[i];
      }
      return sum;
    }

    private long same(Thing t, Thing other) {
      if (sizeOf(t) != sizeOf(other)) {
        return 0;
      }
      int to = limit(t);
      for (int i = first(t); i < to; i++) {
        int k = find(other, t.root.row[i]);
        if (k < 0 || other.root.vals[k] != t.root.vals[i]) {
          return 0;
        }
      }
      return 1;
    }

    private static long bushy(Thing t) {
      int n = 0;
      for (long bins : t.longs) {
        n += Long.bitCount(bins);
      }
      return n;
    }

    long putAll(Thing t, Thing other) {
      int n = sizeOf(other);
      keptKeys = Thing.grown(keptKeys, n);
      keptVals = Thing.grown(keptVals, n);
      for (int i = 0; i < n; i++) {
        int at = placeOf(other, i);
        keptKeys[i] = other.root.row[at];
        keptVals[i] = other.root.vals[at];
      }
      needRoomForAll(t, n);
      for (int i = 0; i < n; i++) {
        put(t, 0, keptKeys[i], keptVals[i]);
      }
      return n;
    }

    /** By ORDER 3 at most ten keys are not alike, so a TREE of that is never full. */
    private void needRoomForAll(Thing t, int n) {
      int come = 0;
      for (int i = 0; i < n; i++) {
        if (find(t, keptKeys[i]) < 0) {
          come++;
          if (!isInside(t, keptKeys[i])) {
            throw new IllegalArgumentException();
          }
        }
      }
      boolean few = t.root.kind == Thing.TREE && t.root.rule == 3;
      if (t.root.size + come > MOST && !dropsFirst(t) && !few) {
        throw new IllegalStateException();
      }
    }

    // SUBMAPS and CURSORS

    /** Whether a key is before another one in the order of t. */
    boolean isBefore(Thing t, int key, int other) {
      int c = Rows.compare(t.root.rule, key, other);
      return isTurned(t) ? c > 0 : c < 0;
    }

    private static boolean isInside(Thing t, int key) {
      if ((t.edges & LO) != 0) {
        int c = Rows.compare(t.root.rule, key, t.lo);
        if (c < 0 || c == 0 && (t.edges & LO_ITSELF) == 0) {
          return false;
        }
      }
      if ((t.edges & HI) != 0) {
        int c = Rows.compare(t.root.rule, key, t.hi);
        return c < 0 || c == 0 && (t.edges & HI_ITSELF) != 0;
      }
      return true;
    }

    /** SUBMAP s becomes the part of t that view() asks for. */
    void narrow(Thing s, Thing t, int kind, int a, int b) {
      s.lo = t.lo;
      s.hi = t.hi;
      s.edges = t.edges;
      boolean turned = isTurned(t);
      if (kind == 1 || kind == 3) {
        bound(s, a, true, !turned);
      }
      if (kind == 1 || kind == 2) {
        bound(s, kind == 1 ? b : a, false, turned);
      }
      if (kind == 4) {
        s.edges ^= TURNED;
      }
    }

    /** An edge that is no narrower than the one that is there does not count. */
    private static void bound(Thing s, int key, boolean itself, boolean low) {
      int c = Rows.compare(s.root.rule, key, low ? s.lo : s.hi);
      int told = low ? LO : HI;
      int incl = low ? LO_ITSELF : HI_ITSELF;
      boolean narrower = (s.edges & told) == 0 || (low ? c > 0 : c < 0) || c == 0 && !itself;
      if (!narrower) {
        return;
      }
      s.edges = (s.edges & ~incl) | told | (itself ? incl : 0);
      if (low) {
        s.lo = key;
      } else {
        s.hi = key;
      }
    }

    /** What a CURSOR does on a MAP; the caller knows that one is PASSED where one must be. */
    long walk(Thing c, Thing t, int op, int a) {
      Thing m = t.root;
      if (op == 0) {
        if (c.at >= sizeOf(t)) {
          throw new NoSuchElementException();
        }
        c.passed = c.at++;
        return m.row[placeOf(t, c.passed)];
      }
      if (op == 2) {
        return c.at < sizeOf(t) ? 1 : 0;
      }
      int i = placeOf(t, c.passed);
      int key = m.row[i];
      int value = m.vals[i];
      if (op == 5) {
        remove(m, i);
        c.at--;
        c.passed = -1;
        c.seen = m.changes;
        return key;
      }
      if (op == 6) {
        m.vals[i] = a;
      }
      return value;
    }
  }

  /** What TEXTS and BITS do, and what THE TAPE makes of TEXTS: FORM and what replaces MATCHES. */
  static final class Texts {
    private static final int MOST_OUT = 65536;
    private static final String FLAGS = "-0+ ,";
    private static final int MINUS = 1;
    private static final int ZERO = 2;
    private static final int PLUS = 4;
    private static final int BLANK = 8;
    private static final int COMMA = 16;
    private static final String LETTERS = "dxocbs%";
    private static final String SIXTY_FOUR =
        "ABCDEFGHIJKLMNOPQRSTUVWXYZabcdefghijklmnopqrstuvwxyz0123456789+/";
    private final Thing[] shelf;
    private final Bytes taken;
    private final Bytes out;
    private final Bytes built = new Bytes();
    private final Bytes field = new Bytes();
    // the FIELD that was read last
    private int flags;
    private int width;
    private int cut;
    private int letter;

    Texts(Thing[] shelf, Bytes taken, Bytes out) {
      this.shelf = shelf;
      this.taken = taken;
      this.out = out;
    }

    int answer(Bytes t, int op, int a, int b, Bytes other) {
      switch (op) {
        case 0:
          return splice(t, t.size, t.size, taken);
        case 1:
          return splice(t, a, a, taken);
        case 2:
          built.size = 0;
          return splice(t, a, b, built);
        case 3:
          return splice(t, a, b, taken);
        case 4:
          t.turnRound(0);
          return t.size;
        case 5:
        case 6:
          return atPlace(t, op, a, b);
        case 7:
          return firstPlace(t, Math.max(a, 0));
        case 8:
          return lastPlace(t, a);
        case 9:
          return compare(t, other);
        case 10:
          return hash(t);
        case 12:
          return resize(t, a);
        case 13:
          return change(t, 'a', -32);
        case 14:
          return change(t, 'A', 32);
        case 15:
          return trim(t);
        case 16:
          out.copy(t);
          return out.size;
        case 17:
          return multiply(t, a);
        case 18:
          return crc(t);
        case 19:
          return writeSixtyFour(t);
        case 20:
          return readSixtyFour(t);
        default:
          return t.size;
      }
    }

    private static int splice(Bytes t, int from, int to, Bytes with) {
      if (from < 0 || to < from || to > t.size) {
        throw new IndexOutOfBoundsException();
      }
      if (t.size - (to - from) + with.size > Bytes.MOST) {
        throw new IllegalStateException();
      }
      t.splice(from, to, with);
      return t.size;
    }

    private static int atPlace(Bytes t, int op, int place, int b) {
      int was = t.get(place);
      if (was < 0) {
        throw new IndexOutOfBoundsException();
      }
      if (op == 6) {
        t.row[place] = (byte) b;
      }
      return was;
    }

    private boolean stands(Bytes t, int place) {
      for (int i = 0; i < taken.size; i++) {
        if (t.get(place + i) != taken.get(i)) {
          return false;
        }
      }
      return true;
    }

    private int firstPlace(Bytes t, int from) {
      for (int i = from; i <= t.size - taken.size; i++) {
        if (stands(t, i)) {
          return i;
        }
      }
      return -1;
    }

    private int lastPlace(Bytes t, int upTo) {
      for (int i = Math.min(upTo, t.size - taken.size); i >= 0; i--) {
        if (stands(t, i)) {
          return i;
        }
      }
      return -1;
    }

    private static int compare(Bytes t, Bytes other) {
      int n = Math.min(t.size, other.size);
      for (int i = 0; i < n; i++) {
        if (t.get(i) != other.get(i)) {
          return t.get(i) - other.get(i);
        }
      }
      return t.size - other.size;
    }

    private static int hash(Bytes t) {
      int h = 1;
      for (int i = 0; i < t.size; i++) {
        h = 31 * h + t.get(i);
      }
      return h;
    }

    private static int resize(Bytes t, int n) {
      t.room(n);
      for (int i = t.size; i < n; i++) {
        t.row[i] = 0;
      }
      t.size = n;
      return n;
    }

    /** The letters from first on become those that far from them. */
    private static int change(Bytes t, char first, int far) {
      for (int i = 0; i < t.size; i++) {
        if (t.row[i] >= first && t.row[i] < first + 26) {
          t.row[i] += far;
        }
      }
      return t.size;
    }

    private static boolean isBlank(int b) {
      return b >= 9 && b <= 13 || b == 32;
    }

    private static int trim(Bytes t) {
      int from = 0;
      int to = t.size;
      while (from < to && isBlank(t.get(from))) {
        from++;
      }
      while (to > from && isBlank(t.get(to - 1))) {
        to--;
      }
      System.arraycopy(t.row, from, t.row, 0, to - from);
      t.size = to - from;
      return t.size;
    }

    private static int multiply(Bytes t, int times) {
      int n = t.size;
      if (n * times > Bytes.MOST) {
        throw new IllegalStateException();
      }
      t.room(n * times);
      for (int i = n; i < n * times; i++) {
        t.row[i] = t.row[i - n];
      }
      t.size = n * times;
      return t.size;
    }

    private static int crc(Bytes t) {
      int crc = -1;
      for (int i = 0; i < t.size; i++) {
        crc ^= t.get(i);
        for (int bit = 0; bit < 8; bit++) {
          crc = (crc & 1) != 0 ? crc >>> 1 ^ 0xEDB88320 : crc >>> 1;
        }
      }
      return ~crc;
    }

    private int writeSixtyFour(Bytes t) {
      out.size = 0;
      for (int i = 0; i < t.size; i += 3) {
        int three = t.get(i) << 16 | Math.max(t.get(i + 1), 0) << 8 | Math.max(t.get(i + 2), 0);
        out.add(SIXTY_FOUR.charAt(three >> 18));
        out.add(SIXTY_FOUR.charAt(three >> 12 & 63));
        out.add(i + 1 < t.size ? SIXTY_FOUR.charAt(three >> 6 & 63) : '=');
        out.add(i + 2 < t.size ? SIXTY_FOUR.charAt(three & 63) : '=');
      }
      return out.size;
    }

    private int readSixtyFour(Bytes t) {
      if (taken.size % 4 != 0) {
        return taken.broken(taken.size);
      }
      built.size = 0;
      for (int i = 0; i < taken.size; i += 4) {
        addThree(i);
      }
      t.copy(built);
      return t.size;
    }

    /** What the four bytes at i stand for; the last four may end with one or two =. */
    private void addThree(int i) {
      boolean last = i + 4 == taken.size;
      int missing = !last || taken.get(i + 3) != '=' ? 0 : taken.get(i + 2) != '=' ? 1 : 2;
      int all = 0;
      for (int k = 0; k < 4; k++) {
        int v = k >= 4 - missing ? 0 : SIXTY_FOUR.indexOf((char) taken.get(i + k));
        if (v < 0) {
          taken.broken(i);
        }
        all = all << 6 | v;
      }
      if (missing > 0 && (all & (missing == 1 ? 0xFF : 0xFFFF)) != 0) {
        taken.broken(i);
      }
      for (int k = 0; k < 3 - missing; k++) {
        built.add(all >> 16 - 8 * k);
      }
    }

    // BITS

    long answerBits(long[] t, int op, int a, int b, long[] other) {
      switch (op) {
        case 0:
        case 1:
        case 2:
          long was = bit(t, a);
          paint(t, op, a, a + 1);
          return was;
        case 3:
        case 4:
        case 5:
          paint(t, op - 3, a, b);
          return howMany(t);
        case 6:
          return bit(t, a);
        case 7:
        case 8:
          return nextBit(t, a, op == 7 ? 1 : 0);
        case 9:
        case 10:
          return lastBit(t, a, op == 9 ? 1 : 0);
        case 11:
          return howMany(t);
        case 12:
          return lastBit(t, 4095, 1) + 1;
        case 17:
        case 18:
          return together(t, op, other);
        case 19:
          return t[a];
        default:
          join(t, op, other);
          return howMany(t);
      }
    }

    private static int bit(long[] t, int i) {
      return (int) (t[i >> 6] >>> (i & 63) & 1);
    }

    /** From .. to - 1 come in with 0, go out with 1, are turned with 2. */
    private static void paint(long[] t, int how, int from, int to) {
      for (int i = from; i < to; i++) {
        long one = 1L << (i & 63);
        long word = t[i >> 6];
        t[i >> 6] = how == 0 ? word | one : how == 1 ? word & ~one : word ^ one;
      }
    }

    private static int howMany(long[] t) {
      int n = 0;
      for (int i = 0; i < 64; i++) {
        n += Long.bitCount(t[i]);
      }
      return n;
    }

    private static int nextBit(long[] t, int from, int asked) {
      for (int i = from; i < 4096; i++) {
        if (bit(t, i) == asked) {
          return i;
        }
      }
      return asked == 1 ? -1 : 4096;
    }

    private static int lastBit(long[] t, int upTo, int asked) {
      for (int i = upTo; i >= 0; i--) {
        if (bit(t, i) == asked) {
          return i;
        }
      }
      return -1;
    }

    private static int together(long[] t, int op, long[] other) {
      boolean same = true;
      boolean both = false;
      for (int i = 0; i < 64; i++) {
        same &= t[i] == other[i];
        both |= (t[i] & other[i]) != 0;
      }
      return (op == 17 ? both : same) ? 1 : 0;
    }

    private static void join(long[] t, int op, long[] other) {
      for (int i = 0; i < 64; i++) {
        long mine = t[i];
        long theirs = other[i];
        t[i] = op == 13 ? mine & theirs
            : op == 14 ? mine | theirs
            : op == 15 ? mine ^ theirs : mine & ~theirs;
      }
    }

    // what replaces MATCHES

    /** Behind each $ of THE TAPE a digit or $ must stand. */
    void checkMarks() {
      for (int i = 0; i < taken.size; i++) {
        if (taken.get(i) == '$') {
          i++;
          int b = taken.get(i);
          if (b != '$' && (b < '0' || b > '9')) {
            taken.broken(i);
          }
        }
      }
    }

    /** All MATCHES in t go for THE TAPE; answers how many. */
    int exchange(Matcher matcher, Thing pattern, Bytes t) {
      matcher.prepare(pattern, t, false, 0);
      built.size = 0;
      int done = 0;
      int n = 0;
      int at = matcher.seek(0, t.size);
      for (; n <= t.size && at >= 0; n++) {
        matcher.walk(at);
        built.addPart(t, done, at);
        addReplacement(matcher.found, t);
        done = matcher.found[1];
        at = matcher.seek(done > at ? done : at + 1, t.size);
      }
      built.addPart(t, done, t.size);
      needRoom(built.size);
      t.copy(built);
      return n;
    }

    private static void needRoom(int size) {
      if (size > Bytes.MOST) {
        throw new IllegalStateException();
      }
    }

    private void addReplacement(int[] found, Bytes t) {
      for (int i = 0; i < taken.size; i++) {
        int b = taken.get(i);
        if (b != '$') {
          built.add(b);
          continue;
        }
        i++;
        b = taken.get(i);
        int g = b - '0';
        if (b == '$') {
          built.add(b);
        } else if (g >= 0 && g <= 9 && found[2 * g] >= 0) {
          built.addPart(t, found[2 * g], found[2 * g + 1]);
        }
        needRoom(built.size);
      }
      needRoom(built.size);
    }

    // FORM

    /** Reads the FIELD whose % is at i and answers the place behind it. */
    private int readField(int i) {
      flags = 0;
      width = 0;
      cut = -1;
      int p = i + 1;
      for (; p < taken.size && flagAt(p) >= 0; p++) {
        if ((flags >> flagAt(p) & 1) != 0) {
          taken.broken(p);
        }
        flags |= 1 << flagAt(p);
      }
      if (taken.get(p) >= '1' && taken.get(p) <= '9') {
        width = taken.get(p++) - '0';
        width = isDigit(p) ? width * 10 + taken.get(p++) - '0' : width;
      }
      if (taken.get(p) == '.') {
        p++;
        if (!isDigit(p)) {
          taken.broken(p);
        }
        cut = taken.get(p++) - '0';
        cut = isDigit(p) ? cut * 10 + taken.get(p++) - '0' : cut;
      }
      letter = taken.get(p);
      if (letter < 0 || LETTERS.indexOf((char) letter) < 0 || !isFit(p - i)) {
        taken.broken(p);
      }
      return p + 1;
    }

    private int flagAt(int p) {
      int b = taken.get(p);
      return b < 0 ? -1 : FLAGS.indexOf((char) b);
    }

    private boolean isDigit(int p) {
      return taken.get(p) >= '0' && taken.get(p) <= '9';
    }

    /** Whether flags, width and cut go with one another and with the letter, so far behind the %. */
    private boolean isFit(int far) {
      if (letter == '%') {
        return far == 1;
      }
      boolean pad = (flags & (MINUS | ZERO)) != 0;
      if ((flags & (MINUS | ZERO)) == (MINUS | ZERO) || (flags & (PLUS | BLANK)) == (PLUS | BLANK)
          || pad && width == 0 || cut >= 0 && letter != 'b' && letter != 's') {
        return false;
      }
      int free = letter == 'd' ? MINUS | ZERO | PLUS | BLANK | COMMA
          : letter == 'x' || letter == 'o' ? MINUS | ZERO : MINUS;
      return (flags & ~free) == 0;
    }

    void checkFields() {
      int i = 0;
      for (int n = 0; n < Bytes.MOST && i < taken.size; n++) {
        i = taken.get(i) == '%' ? readField(i) : i + 1;
      }
    }

    /** OUT is THE TAPE, whose FIELDS were looked at, with the ELEMENTS of t. */
    int fill(Thing t) {
      built.size = 0;
      int used = 0;
      int i = 0;
      for (int n = 0; n < Bytes.MOST && i < taken.size; n++) {
        if (taken.get(i) != '%') {
          needOut(built.size + 1);
          built.add(taken.get(i++));
          continue;
        }
        i = readField(i);
        field.size = 0;
        if (letter == '%') {
          field.add('%');
        } else if (used < t.size) {
          fillField(t.root.row[t.at + used++]);
        } else {
          throw new IndexOutOfBoundsException();
        }
        needOut(built.size + Math.max(width, field.size));
        addPadded();
      }
      out.swap(built);
      return out.size;
    }

    private static void needOut(int size) {
      if (size > MOST_OUT) {
        throw new IndexOutOfBoundsException();
      }
    }

    private void fillField(int v) {
      switch (letter) {
        case 'd':
          fillSigned(v);
          break;
        case 'x':
          fillUnsigned(v, 4);
          break;
        case 'o':
          fillUnsigned(v, 3);
          break;
        case 'c':
          field.add(v);
          break;
        case 'b':
          field.addText(v == 0 ? "false" : "true");
          break;
        default:
          Thing text = Thing.find(shelf, v);
          text.need(Thing.TEXT);
          field.copy(text.bytes);
          break;
      }
      if (cut >= 0 && field.size > cut) {
        field.size = cut;
      }
    }

    private void fillSigned(int v) {
      if (v < 0) {
        field.add('-');
      } else if ((flags & PLUS) != 0) {
        field.add('+');
      } else if ((flags & BLANK) != 0) {
        field.add(' ');
      }
      int first = field.size;
      long rest = Math.abs((long) v);
      for (int n = 0; n < 10 && (n == 0 || rest > 0); n++) {
        if (n > 0 && n % 3 == 0 && (flags & COMMA) != 0) {
          field.add(',');
        }
        field.add((int) (rest % 10) + '0');
        rest /= 10;
      }
      field.turnRound(first);
    }

    private void fillUnsigned(int v, int bits) {
      int rest = v;
      for (int n = 0; n < 32 && (n == 0 || rest != 0); n++) {
        int digit = rest & (1 << bits) - 1;
        field.add(digit < 10 ? digit + '0' : digit - 10 + 'a');
        rest >>>= bits;
      }
      field.turnRound(0);
    }

    private void addPadded() {
      int missing = Math.max(width - field.size, 0);
      boolean zeros = (flags & ZERO) != 0;
      boolean sign = zeros && letter == 'd' && field.size > 0 && (field.get(0) < '0' || field.get(0) > '9');
      if (sign) {
        built.add(field.get(0));
      }
      for (int i = 0; i < missing && (flags & MINUS) == 0; i++) {
        built.add(zeros ? '0' : ' ');
      }
      built.addPart(field, sign ? 1 : 0, field.size);
      for (int i = 0; i < missing && (flags & MINUS) != 0; i++) {
        built.add(' ');
      }
    }
  }

  /** Reads a PATTERN from THE TAPE as a tree of parts, and writes it as instructions for the Matcher. */
  static final class PatternMaker {
    static final int MOST_WEIGHT = 400;
    private static final int MOST_BYTES = 200;
    private static final int MOST_OPEN = 10;
    private static final int MOST_GROUPS = 9;
    private static final int MOST_TIMES = 20;
    private static final int TOO_HEAVY = 1000000;
    private static final int NODES = 3 * MOST_BYTES + 8;
    // kinds of parts; those below 6 are instructions of the Matcher, too
    private static final int GROUP = 6;
    private static final int PLAIN = 7;
    private static final int AHEAD = 8;
    private static final int NOT_AHEAD = 9;
    private static final int REPEAT = 10;
    private static final int ALT = 11;
    private static final int SEQ = 12;
    private static final int GREEDY = 0;
    private static final int LAZY = 1;
    private static final int POSSESSIVE = 2;
    private static final String CLASSES = "dwsDWS";

    private final Bytes in;
    private int nodes;
    private int[] kind = new int[0];
    private int[] what = new int[0];
    private int[] most = new int[0];
    private int[] mode = new int[0];
    private int[] weight = new int[0];
    private int[] kid = new int[0];
    private int[] next = new int[0];
    private long[] sets = new long[0];
    private int setCount;
    private int groups;
    /** How many lookaheads and possessive quantifiers came up to here. */
    private int closed;
    private boolean inAhead;
    private int tree;
    private Thing program;
    private int loops;

    PatternMaker(Bytes in) {
      this.in = in;
    }

    /** Reads THE TAPE, broken if it is none, and answers the WEIGHT. */
    int weigh() {
      if (kind.length < NODES) {
        kind = new int[NODES];
        what = new int[NODES];
        most = new int[NODES];
        mode = new int[NODES];
        weight = new int[NODES];
        kid = new int[NODES];
        next = new int[NODES];
        sets = new long[4 * (7 + MOST_BYTES)];
      }
      nodes = 0;
      groups = 0;
      closed = 0;
      inAhead = false;
      paintFixedSets();
      tree = readAlt(0);
      if (in.at < in.size) {
        in.broken(in.at);
      }
      return weight[tree];
    }

    private void paintFixedSets() {
      Arrays.fill(sets, 0);
      setCount = 7;
      for (int b = 0; b < 256; b++) {
        if (b != 10) {
          paint(0, b);
        }
        for (int c = 0; c < 6; c++) {
          if (isOf(CLASSES.charAt(c), b)) {
            paint(1 + c, b);
          }
        }
      }
    }

    static boolean isWord(int b) {
      return b >= '0' && b <= '9' || b >= 'a' && b <= 'z' || b >= 'A' && b <= 'Z' || b == '_';
    }

    private static boolean isOf(int letter, int b) {
      switch (letter) {
        case 'd':
          return b >= '0' && b <= '9';
        case 'w':
          return isWord(b);
        case 's':
          return b >= 9 && b <= 13 || b == 32;
        case 'D':
          return b < '0' || b > '9';
        case 'W':
          return !isWord(b);
        default:
          return (b < 9 || b > 13) && b != 32;
      }
    }

    private void paint(int set, int b) {
      sets[4 * set + (b >> 6)] |= 1L << (b & 63);
    }

    /** The byte at i; -1 behind the end, -2 if it can stand nowhere in a PATTERN. */
    private int byteAt(int i) {
      int b = in.get(i);
      return b < 0 ? -1 : i >= MOST_BYTES || b < 32 || b > 126 ? -2 : b;
    }

    private int add(int ofKind, int w) {
      int n = nodes++;
      kind[n] = ofKind;
      weight[n] = w;
      what[n] = 0;
      most[n] = 0;
      mode[n] = GREEDY;
      kid[n] = -1;
      next[n] = -1;
      return n;
    }

    private void weighMore(int node, int w) {
      weight[node] = Math.min(weight[node] + w, TOO_HEAVY);
    }

    /** Deep is how many ( are open. */
    private int readAlt(int deep) {
      int node = add(ALT, 0);
      int last = -1;
      boolean more = true;
      for (int n = 0; n <= MOST_BYTES && more; n++) {
        int seq = readSeq(deep);
        weighMore(node, weight[seq]);
        if (last < 0) {
          kid[node] = seq;
        } else {
          next[last] = seq;
        }
        last = seq;
        more = byteAt(in.at) == '|';
        if (more) {
          weighMore(node, 1);
          in.at++;
        }
      }
      return node;
    }

    private int readSeq(int deep) {
      int node = add(SEQ, 0);
      int last = -1;
      for (int n = 0; n <= MOST_BYTES && !isSeqOver(); n++) {
        int part = readPart(deep);
        weighMore(node, weight[part]);
        if (last < 0) {
          kid[node] = part;
        } else {
          next[last] = part;
        }
        last = part;
      }
      return node;
    }

    private boolean isSeqOver() {
      int b = byteAt(in.at);
      return b == -1 || b == '|' || b == ')';
    }

    /** An ATOM with what stands behind it. */
    private int readPart(int deep) {
      int closedBefore = closed;
      int atom = readAtom(deep);
      int b = byteAt(in.at);
      boolean fixed = kind[atom] >= 2 && kind[atom] < GROUP || kind[atom] == AHEAD
          || kind[atom] == NOT_AHEAD;
      if (fixed || b != '*' && b != '+' && b != '?' && b != '{') {
        return atom;
      }
      int node = add(REPEAT, 0);
      kid[node] = atom;
      what[node] = b == '+' ? 1 : 0;
      most[node] = b == '?' ? 1 : -1;
      in.at++;
      if (b == '{') {
        readTimes(node);
      }
      b = byteAt(in.at);
      if (b == '+') {
        if (inAhead || closed > closedBefore) {
          in.broken(in.at);
        }
        closed++;
        mode[node] = POSSESSIVE;
        in.at++;
      } else if (b == '?') {
        mode[node] = LAZY;
        in.at++;
      }
      weighRepeat(node, weight[atom]);
      return node;
    }

    private void weighRepeat(int node, int w) {
      int rounds = most[node] < 0 ? 1 : most[node] - what[node];
      int all = Math.min(w, TOO_HEAVY) * what[node] + (w + 1) * rounds;
      weight[node] = Math.min(all + (mode[node] == POSSESSIVE ? 1 : 0), TOO_HEAVY);
    }

    private void readTimes(int node) {
      what[node] = readNumber(0);
      most[node] = what[node];
      if (byteAt(in.at) == ',') {
        in.at++;
        most[node] = byteAt(in.at) == '}' ? -1 : readNumber(what[node]);
      }
      if (byteAt(in.at) != '}') {
        in.broken(in.at);
      }
      in.at++;
    }

    /** Behind a 0 no digit can stand; nor can the 0 itself, if it is too small. */
    private int readNumber(int least) {
      int first = in.at;
      int v = 0;
      for (; byteAt(in.at) >= '0' && byteAt(in.at) <= '9'; in.at++) {
        if (in.at > first && v == 0) {
          in.broken(least > 0 ? first : in.at);
        }
        v = Math.min(v * 10 + byteAt(in.at) - '0', MOST_TIMES + 1);
      }
      if (in.at == first || v > MOST_TIMES || v < least) {
        in.broken(first);
      }
      return v;
    }

    private int readAtom(int deep) {
      int b = byteAt(in.at);
      switch (b) {
        case '(':
          return readParens(deep);
        case '[':
          return readSet();
        case '\\':
          return readEscape();
        case '.':
          in.at++;
          return addLeaf(Matcher.SET, 0);
        case '^':
          in.at++;
          return addLeaf(Matcher.BEGIN, 0);
        case '$':
          in.at++;
          return addLeaf(Matcher.END, 0);
        case '*':
        case '+':
        case '?':
        case '{':
        case -2:
          return in.broken(in.at);
        default:
          in.at++;
          return addLeaf(Matcher.BYTE, b);
      }
    }

    private int addLeaf(int ofKind, int of) {
      int node = add(ofKind, 1);
      what[node] = of;
      return node;
    }

    private int readParens(int deep) {
      int first = in.at;
      if (deep >= MOST_OPEN) {
        in.broken(first);
      }
      int node = add(PLAIN, 1);
      in.at++;
      if (byteAt(in.at) == '?') {
        in.at++;
        int b = byteAt(in.at);
        kind[node] = b == ':' ? PLAIN : b == '=' ? AHEAD : b == '!' ? NOT_AHEAD : in.broken(in.at);
        if (b != ':' && inAhead) {
          in.broken(first);
        }
        in.at++;
      } else {
        if (groups >= MOST_GROUPS) {
          in.broken(first);
        }
        kind[node] = GROUP;
        weight[node] = 2;
        what[node] = ++groups;
      }
      boolean ahead = kind[node] == AHEAD || kind[node] == NOT_AHEAD;
      closed += ahead ? 1 : 0;
      inAhead |= ahead;
      kid[node] = readAlt(deep + 1);
      weighMore(node, weight[kid[node]]);
      if (ahead) {
        inAhead = false;
      }
      if (byteAt(in.at) != ')') {
        in.broken(in.at);
      }
      in.at++;
      return node;
    }

    private int readEscape() {
      in.at++;
      int b = byteAt(in.at);
      int c = b < 0 ? -1 : CLASSES.indexOf((char) b);
      if (b < 0 || c < 0 && b != 'b' && b != 'B' && b != '_' && isWord(b)) {
        in.broken(in.at);
      }
      in.at++;
      if (c >= 0) {
        return addLeaf(Matcher.SET, 1 + c);
      }
      return b == 'b' || b == 'B' ? addLeaf(b == 'b' ? Matcher.EDGE : Matcher.NO_EDGE, 0)
          : addLeaf(Matcher.BYTE, b);
    }

    private int readSet() {
      in.at++;
      boolean not = byteAt(in.at) == '^';
      if (not) {
        in.at++;
      }
      int set = setCount++;
      for (int n = 0; n <= MOST_BYTES && (n == 0 || byteAt(in.at) != ']'); n++) {
        int b = byteAt(in.at);
        if (b < 0 || b == ']') {
          in.broken(in.at);
        }
        if (b == '\\') {
          readEscapeInSet(set);
        } else {
          readRange(set, b);
        }
      }
      in.at++;
      if (not) {
        for (int i = 0; i < 4; i++) {
          sets[4 * set + i] = ~sets[4 * set + i];
        }
      }
      return addLeaf(Matcher.SET, set);
    }

    private void readEscapeInSet(int set) {
      in.at++;
      int b = byteAt(in.at);
      int c = b < 0 ? -1 : CLASSES.indexOf((char) b);
      if (b < 0 || c < 0 && b != '_' && isWord(b)) {
        in.broken(in.at);
      }
      in.at++;
      if (c < 0) {
        paint(set, b);
        return;
      }
      for (int i = 0; i < 4; i++) {
        sets[4 * set + i] |= sets[4 * (1 + c) + i];
      }
    }

    /** One byte, or a range of them: a - ahead of ] or of a \ is a byte by itself. */
    private void readRange(int set, int x) {
      int y = x;
      int first = in.at;
      in.at++;
      int behind = byteAt(in.at + 1);
      if (byteAt(in.at) == '-' && behind != ']' && behind != '\\') {
        in.at++;
        y = behind;
        if (y < 0) {
          in.broken(in.at);
        }
        if (y < x) {
          in.broken(first);
        }
        in.at++;
      }
      for (int b = x; b <= y; b++) {
        paint(set, b);
      }
    }

    // writing

    /** The PATTERN that was read becomes the program of p: four numbers an instruction. */
    void write(Thing p) {
      program = p;
      loops = 0;
      writeNode(tree, 0);
      put(Matcher.ACCEPT, 0, 0);
      p.roomOfLongs(4 * setCount);
      System.arraycopy(sets, 0, p.longs, 0, 4 * setCount);
    }

    private int put(int op, int x, int y) {
      int pc = program.size++;
      program.room(4 * program.size);
      program.row[4 * pc] = op;
      program.row[4 * pc + 1] = x;
      program.row[4 * pc + 2] = y;
      program.row[4 * pc + 3] = loops;
      return pc;
    }

    /** Forty parts within one another are more than ten open ( can give. */
    private void writeNode(int node, int deep) {
      if (deep > 60) {
        return;
      }
      switch (kind[node]) {
        case ALT:
          writeAlt(node, deep + 1);
          break;
        case SEQ:
          for (int i = kid[node]; i >= 0; i = next[i]) {
            writeNode(i, deep + 1);
          }
          break;
        case REPEAT:
          writeRepeat(node, deep + 1);
          break;
        case GROUP:
          put(Matcher.SAVE, 2 * what[node], 0);
          writeNode(kid[node], deep + 1);
          put(Matcher.SAVE, 2 * what[node] + 1, 0);
          break;
        case PLAIN:
          writeNode(kid[node], deep + 1);
          break;
        case AHEAD:
        case NOT_AHEAD:
          writeAhead(node, deep + 1);
          break;
        default:
          put(kind[node], what[node], 0);
          break;
      }
    }

    /** Only a lookahead that sets GROUPS is told to be walked through. */
    private void writeAhead(int node, int deep) {
      int look = put(Matcher.LOOK, 0, Matcher.NOT);
      int outer = loops;
      loops = 0;
      writeNode(kid[node], deep);
      put(Matcher.DONE, 0, 0);
      loops = outer;
      program.row[4 * look + 1] = program.size;
      if (kind[node] == AHEAD) {
        int how = Matcher.THERE;
        for (int pc = look; pc < program.size; pc++) {
          how = program.row[4 * pc] == Matcher.SAVE ? Matcher.THERE_WITH_GROUPS : how;
        }
        program.row[4 * look + 2] = how;
      }
    }

    /** Until the end is known, the jumps to it tell one another's places. */
    private void writeAlt(int node, int deep) {
      int jumps = -1;
      for (int seq = kid[node]; seq >= 0; seq = next[seq]) {
        if (next[seq] < 0) {
          writeNode(seq, deep);
          break;
        }
        int split = put(Matcher.SPLIT, program.size + 1, 0);
        writeNode(seq, deep);
        jumps = put(Matcher.JUMP, jumps, 0);
        program.row[4 * split + 2] = program.size;
      }
      for (int n = 0; n < MOST_BYTES && jumps >= 0; n++) {
        int before = program.row[4 * jumps + 1];
        program.row[4 * jumps + 1] = program.size;
        jumps = before;
      }
    }

    private void writeRepeat(int node, int deep) {
      int atomic = -1;
      int outer = loops;
      boolean lazy = mode[node] == LAZY;
      if (mode[node] == POSSESSIVE) {
        atomic = put(Matcher.ATOMIC, 0, 0);
        loops = 0;
      }
      for (int i = 0; i < what[node]; i++) {
        writeNode(kid[node], deep);
      }
      if (most[node] < 0) {
        int head = put(Matcher.SPLIT, 0, 0);
        loops++;
        writeNode(kid[node], deep);
        put(Matcher.ROUND, head, 0);
        loops--;
        writeSplit(head, lazy);
      } else {
        writeRounds(node, deep, lazy);
      }
      if (atomic >= 0) {
        put(Matcher.DONE, 0, 0);
        loops = outer;
        program.row[4 * atomic + 1] = program.size;
      }
    }

    /** A round more or none, as often as X{n,m} has rounds behind the n-th. */
    private void writeRounds(int node, int deep, boolean lazy) {
      int split = -1;
      for (int i = what[node]; i < most[node]; i++) {
        split = put(Matcher.SPLIT, 0, split);
        writeNode(kid[node], deep);
      }
      for (int i = what[node]; i < most[node] && split >= 0; i++) {
        int before = program.row[4 * split + 2];
        writeSplit(split, lazy);
        split = before;
      }
    }

    /** The SPLIT chooses between the round behind it and what comes next. */
    private void writeSplit(int split, boolean lazy) {
      program.row[4 * split + 1] = lazy ? program.size : split + 1;
      program.row[4 * split + 2] = lazy ? split + 1 : program.size;
    }
  }

  /** Finds MATCHES: tells of each instruction at each place whether a way leads on from there. */
  static final class Matcher {
    static final int MOST = 1000;
    static final int MOST_REPLACED = 300;
    static final int MARKS = 20;
    static final int BYTE = 0;
    static final int SET = 1;
    static final int BEGIN = 2;
    static final int END = 3;
    static final int EDGE = 4;
    static final int NO_EDGE = 5;
    static final int SAVE = 6;
    static final int SPLIT = 7;
    static final int JUMP = 8;
    static final int ROUND = 9;
    static final int LOOK = 10;
    static final int ATOMIC = 11;
    static final int DONE = 12;
    static final int ACCEPT = 13;
    /** 802 instructions of a PATTERN of 400, in 11 loops each, have no more states than this at 1001 places. */
    private static final int MOST_WAYS = 802 * 12 * (MOST + 1) / 64 + 1;
    // what a LOOK looks for
    static final int NOT = 0;
    static final int THERE = 1;
    static final int THERE_WITH_GROUPS = 2;

    /** Where GROUP i of the latest walk begins (at 2 i) and ends (behind that), -1 for none. */
    final int[] found = new int[MARKS];
    private int[] code = new int[0];
    private long[] sets = new long[0];
    private Bytes text;
    private boolean whole;
    private int from;
    /** The number of the first state of each instruction. */
    private int[] base = new int[0];
    private int states;
    /** By state: where the first way ends, -1 without a way; at this place, and at the next one. */
    private int[] here = new int[0];
    private int[] there = new int[0];
    /** By place and state: whether there is a way. */
    private long[] ways = new long[0];

    /**
     * An instruction in k loops has k + 1 states: how many of these loops, from the outermost on, have
     * taken a byte in their round. A byte taken in an inner round is taken in all the outer ones, too.
     */
    void prepare(Thing p, Bytes t, boolean toTheEnd, int first) {
      code = p.row;
      sets = p.longs;
      text = t;
      whole = toTheEnd;
      from = first;
      base = Thing.grown(base, p.size);
      states = 0;
      int deepest = 0;
      for (int pc = 0; pc < p.size; pc++) {
        base[pc] = states;
        states += loopsOf(pc) + 1;
        deepest = Math.max(deepest, loopsOf(pc));
      }
      here = Thing.grown(here, states);
      there = Thing.grown(there, states);
      int words = states * (t.size - from + 1) / 64 + 1;
      if (ways.length < words) {
        ways = new long[Math.max(words, Math.min(2 * ways.length, MOST_WAYS))];
      }
      Arrays.fill(ways, 0, words, 0);
      for (int at = t.size; at >= from; at--) {
        int[] row = here;
        here = there;
        there = row;
        for (int k = 0; k <= deepest; k++) {
          findWays(p.size, k, at);
        }
      }
    }

    /** A way leads to later instructions, to those with a smaller k, or to the next place. */
    private void findWays(int instructions, int k, int at) {
      for (int pc = instructions - 1; pc >= 0; pc--) {
        if (k <= loopsOf(pc)) {
          int state = base[pc] + k;
          int end = wayFrom(pc, k, at);
          here[state] = end;
          if (end >= 0) {
            int i = (at - from) * states + state;
            ways[i >> 6] |= 1L << (i & 63);
          }
        }
      }
    }

    private int loopsOf(int pc) {
      return code[4 * pc + 3];
    }

    private boolean isWay(int pc, int k, int at) {
      int i = (at - from) * states + base[pc] + Math.min(k, loopsOf(pc));
      return (ways[i >> 6] >>> (i & 63) & 1) != 0;
    }

    private int onHere(int pc, int k) {
      return here[base[pc] + Math.min(k, loopsOf(pc))];
    }

    /** Whether an instruction that takes a byte, or asks for a place, may be passed at a place. */
    private boolean holds(int pc, int at) {
      int x = code[4 * pc + 1];
      int b = text.get(at);
      switch (code[4 * pc]) {
        case BYTE:
          return b == x;
        case SET:
          return b >= 0 && (sets[4 * x + (b >> 6)] >>> (b & 63) & 1) != 0;
        case BEGIN:
          return at == 0;
        case END:
          return at == text.size;
        default:
          boolean edge = PatternMaker.isWord(b) != PatternMaker.isWord(text.get(at - 1));
          return edge == (code[4 * pc] == EDGE);
      }
    }

    private int wayFrom(int pc, int k, int at) {
      int x = code[4 * pc + 1];
      int y = code[4 * pc + 2];
      switch (code[4 * pc]) {
        case BYTE:
        case SET:
          return holds(pc, at) ? there[base[pc + 1] + loopsOf(pc + 1)] : -1;
        case BEGIN:
        case END:
        case EDGE:
        case NO_EDGE:
          return holds(pc, at) ? onHere(pc + 1, k) : -1;
        case SAVE:
          return onHere(pc + 1, k);
        case SPLIT:
          int end = onHere(x, k);
          return end >= 0 ? end : onHere(y, k);
        case JUMP:
          return onHere(x, k);
        case ROUND:
          return k == loopsOf(pc) ? onHere(x, k - 1) : -1;
        case LOOK:
          return onHere(pc + 1, 0) >= 0 == (y != NOT) ? onHere(x, k) : -1;
        case ATOMIC:
          int to = onHere(pc + 1, 0);
          if (to <= at) {
            return to < 0 ? -1 : onHere(x, k);
          }
          return isWay(x, loopsOf(x), to) ? to : -1;
        case DONE:
          return at;
        default:
          return !whole || at == text.size ? at : -1;
      }
    }

    /** The first place from .. upTo where a MATCH begins, -1 without. */
    int seek(int first, int upTo) {
      for (int at = first; at <= upTo; at++) {
        if (isWay(0, 0, at)) {
          return at;
        }
      }
      return -1;
    }

    /** Goes the first way from a place where there is one, and notes the GROUPS. */
    void walk(int start) {
      Arrays.fill(found, -1);
      int pc = 0;
      int k = 0;
      int at = start;
      int look = -1;
      int backAt = 0;
      int backK = 0;
      long steps = (long) states * (text.size + 1) * (text.size + 2);
      for (long n = 0; n <= steps && code[4 * pc] != ACCEPT; n++) {
        int op = code[4 * pc];
        int x = code[4 * pc + 1];
        if (op == LOOK && code[4 * pc + 2] != THERE_WITH_GROUPS) {
          pc = x;
        } else if (op == LOOK || op == ATOMIC) {
          look = pc;
          backAt = at;
          backK = k;
          pc++;
          k = 0;
        } else if (op == DONE && look >= 0) {
          pc = code[4 * look + 1];
          k = code[4 * look] == LOOK || at == backAt ? backK : loopsOf(pc);
          at = code[4 * look] == LOOK ? backAt : at;
        } else if (op == SPLIT) {
          pc = isWay(x, k, at) ? x : code[4 * pc + 2];
        } else if (op == JUMP || op == ROUND) {
          k = op == ROUND ? k - 1 : k;
          pc = x;
        } else {
          if (op == BYTE || op == SET) {
            at++;
            k = loopsOf(pc);
          } else if (op == SAVE) {
            found[x] = at;
          }
          pc++;
        }
        k = Math.min(k, loopsOf(pc));
      }
      found[0] = start;
      found[1] = at;
    }
  }

  /** A whole number: a sign, and 32 bits in each limb, the lowest first. */
  static final class Big {
    static final int WHOLE_LIMBS = 64;
    private static final long LOW = 0xFFFFFFFFL;
    final int[] mag;
    int len;
    int sign;

    Big(int limbs) {
      mag = new int[limbs];
    }

    void become(long v) {
      sign = Long.compare(v, 0);
      long size = v < 0 ? -v : v;
      len = 2;
      mag[0] = (int) size;
      mag[1] = (int) (size >>> 32);
      trim();
    }

    void copy(Big o) {
      needRoom(o.len);
      System.arraycopy(o.mag, 0, mag, 0, o.len);
      len = o.len;
      sign = o.sign;
    }

    /** The limits of the document keep all numbers in the room that is there. */
    private void needRoom(int limbs) {
      if (limbs > mag.length) {
        throw new ArithmeticException();
      }
    }

    void trim() {
      while (len > 0 && mag[len - 1] == 0) {
        len--;
      }
      if (len == 0) {
        sign = 0;
      }
    }

    long limb(int i) {
      return i >= 0 && i < len ? mag[i] & LOW : 0;
    }

    /** Limb i of the endless bits with sign. */
    int limbWithSign(int i) {
      if (sign >= 0) {
        return (int) limb(i);
      }
      boolean zerosBelow = true;
      for (int k = 0; k < i && k < len; k++) {
        zerosBelow &= mag[k] == 0;
      }
      return zerosBelow ? (int) -limb(i) : (int) ~limb(i);
    }

    /** How many bits 0 are above the highest bit 1 of a limb that is not 0. */
    private static int zerosAbove(int limb) {
      int n = 0;
      while (n < 31 && limb << n >= 0) {
        n++;
      }
      return n;
    }

    int bitLength() {
      return len == 0 ? 0 : 32 * len - zerosAbove(mag[len - 1]);
    }

    boolean bit(int i) {
      return (limb(i >> 5) >> (i & 31) & 1) != 0;
    }

    /** How many bits 0 are below the lowest bit 1; of 0 none. */
    int zerosAtEnd() {
      int i = 0;
      while (i < len && mag[i] == 0) {
        i++;
      }
      int bit = 0;
      while (i < len && bit < 31 && (mag[i] >>> bit & 1) == 0) {
        bit++;
      }
      return i < len ? 32 * i + bit : 0;
    }

    static int compareSizes(Big p, Big q) {
      if (p.len != q.len) {
        return p.len < q.len ? -1 : 1;
      }
      for (int i = p.len - 1; i >= 0; i--) {
        if (p.mag[i] != q.mag[i]) {
          return p.limb(i) < q.limb(i) ? -1 : 1;
        }
      }
      return 0;
    }

    static int compare(Big p, Big q) {
      if (p.sign != q.sign) {
        return p.sign < q.sign ? -1 : 1;
      }
      return p.sign * compareSizes(p, q);
    }

    /** p + q, or p - q with way -1; this may be one of them. */
    void add(Big p, Big q, int way) {
      int other = q.sign * way;
      if (p.sign == 0 || other == 0 || p.sign == other) {
        int s = p.sign != 0 ? p.sign : other;
        addSizes(p, q);
        sign = s;
      } else {
        int c = compareSizes(p, q);
        int s = c * p.sign;
        if (c >= 0) {
          subtractSizes(p, q);
        } else {
          subtractSizes(q, p);
        }
        sign = s;
      }
      trim();
    }

    private void addSizes(Big p, Big q) {
      int n = Math.max(p.len, q.len);
      long carry = 0;
      int pLen = p.len;
      int qLen = q.len;
      needRoom(n);
      for (int i = 0; i < n; i++) {
        carry += (i < pLen ? p.mag[i] & LOW : 0) + (i < qLen ? q.mag[i] & LOW : 0);
        mag[i] = (int) carry;
        carry >>>= 32;
      }
      len = n;
      if (carry != 0) {
        needRoom(n + 1);
        mag[n] = (int) carry;
        len = n + 1;
      }
    }

    /** p is not below q in size. */
    private void subtractSizes(Big p, Big q) {
      int n = p.len;
      int qLen = q.len;
      long borrow = 0;
      needRoom(n);
      for (int i = 0; i < n; i++) {
        long d = (p.mag[i] & LOW) - (i < qLen ? q.mag[i] & LOW : 0) - borrow;
        mag[i] = (int) d;
        borrow = d >>> 63;
      }
      len = n;
    }

    /** p * q; this is none of them. */
    void multiply(Big p, Big q) {
      int n = p.len + q.len;
      needRoom(n);
      Arrays.fill(mag, 0, n, 0);
      for (int i = 0; i < p.len; i++) {
        long carry = 0;
        long x = p.mag[i] & LOW;
        for (int k = 0; k < q.len; k++) {
          carry += x * (q.mag[k] & LOW) + (mag[i + k] & LOW);
          mag[i + k] = (int) carry;
          carry >>>= 32;
        }
        mag[i + q.len] = (int) carry;
      }
      len = n;
      sign = p.sign * q.sign;
      trim();
    }

    /** This in size times a small number, and one more; the sign is that of a number above 0. */
    void multiplySmall(int by, int more) {
      long carry = more;
      for (int i = 0; i < len; i++) {
        carry += (mag[i] & LOW) * by;
        mag[i] = (int) carry;
        carry >>>= 32;
      }
      if (carry != 0) {
        needRoom(len + 1);
        mag[len++] = (int) carry;
      }
      sign = 1;
      trim();
    }

    /** This by a small number above 0, cut; answers what that leaves of the size. */
    int divideSmall(int by) {
      long rest = 0;
      if (by <= 0) {
        return 0;
      }
      for (int i = len - 1; i >= 0; i--) {
        long part = rest << 32 | mag[i] & LOW;
        mag[i] = (int) (part / by);
        rest = part % by;
      }
      trim();
      return (int) rest;
    }

    /** This times 10^n. */
    void raiseTens(int n) {
      int s = sign;
      for (int left = n; left > 0; left -= 9) {
        multiplySmall(smallTens(Math.min(left, 9)), 0);
      }
      sign = len == 0 ? 0 : s;
    }

    static int smallTens(int n) {
      int v = 1;
      for (int i = 0; i < n; i++) {
        v *= 10;
      }
      return v;
    }

    /** p times 2^n in size, rounded down in size; this may be p, so no limb is written before it is read. */
    void shift(Big p, int n) {
      int s = p.sign;
      int far = n >> 5;
      int turn = n & 31;
      int limbs = Math.max(p.len + far + 1, 0);
      needRoom(limbs);
      for (int done = 0; done < limbs; done++) {
        int i = far >= 0 ? limbs - 1 - done : done;
        mag[i] = (int) (p.limb(i - far) << turn | p.limb(i - far - 1) << turn >>> 32);
      }
      len = limbs;
      sign = s;
      trim();
    }

    /**
     * The sizes of p by q, cut, and what that leaves: quotient, rest and norm are three others, q is
     * not 0. By Knuth: each limb is guessed from the two highest ones, and is at most 2 too great.
     */
    static void divide(Big p, Big q, Big quotient, Big rest, Big norm) {
      int n = q.len;
      if (n == 0 || compareSizes(p, q) < 0) {
        rest.copy(p);
        rest.sign = p.len == 0 ? 0 : 1;
        quotient.become(0);
        return;
      }
      int turn = zerosAbove(q.mag[n - 1]);
      int m = p.len - n;
      norm.shift(q, turn);
      rest.shift(p, turn);
      rest.needRoom(p.len + 1);
      quotient.needRoom(m + 1);
      for (int i = rest.len; i <= p.len; i++) {
        rest.mag[i] = 0;
      }
      rest.len = p.len + 1;
      for (int i = m; i >= 0; i--) {
        long guess = guess(rest, norm, i + n);
        quotient.mag[i] = (int) takeAway(rest, norm, i, guess);
      }
      quotient.len = m + 1;
      quotient.sign = 1;
      quotient.trim();
      rest.sign = 1;
      rest.trim();
      rest.shift(rest, -turn);
    }

    private static long guess(Big rest, Big norm, int top) {
      long high = norm.limb(norm.len - 1);
      long two = rest.limb(top) << 32 | rest.limb(top - 1);
      long guess = rest.limb(top) >= high ? LOW : divideLong(two, high);
      long left = two - guess * high;
      long second = norm.limb(norm.len - 2);
      for (int i = 0; i < 2 && left >= 0 && left <= LOW; i++) {
        if (!isAbove(guess * second, left << 32 | rest.limb(top - 2))) {
          break;
        }
        guess--;
        left += high;
      }
      return guess;
    }

    /** Takes guess times norm from the limbs from i on; answers guess, or one less if it was too great. */
    private static long takeAway(Big rest, Big norm, int i, long guess) {
      int n = norm.len;
      long carry = 0;
      long borrow = 0;
      for (int k = 0; k < n; k++) {
        carry += guess * (norm.mag[k] & LOW);
        long d = (rest.mag[i + k] & LOW) - (carry & LOW) - borrow;
        rest.mag[i + k] = (int) d;
        borrow = d >>> 63;
        carry >>>= 32;
      }
      long d = (rest.mag[i + n] & LOW) - carry - borrow;
      rest.mag[i + n] = (int) d;
      if (d >= 0) {
        return guess;
      }
      carry = 0;
      for (int k = 0; k < n; k++) {
        carry += (rest.mag[i + k] & LOW) + (norm.mag[k] & LOW);
        rest.mag[i + k] = (int) carry;
        carry >>>= 32;
      }
      rest.mag[i + n] += (int) carry;
      return guess - 1;
    }

    /** Without sign: n by d, d from 2^31 to 2^32. */
    private static long divideLong(long n, long d) {
      if (d <= 0) {
        return 0;
      }
      if (n >= 0) {
        return n / d;
      }
      long q = (n >>> 1) / d << 1;
      return n - q * d >= d ? q + 1 : q;
    }

    private static boolean isAbove(long x, long y) {
      return x + Long.MIN_VALUE > y + Long.MIN_VALUE;
    }
  }

  /** What WHOLES and DECIMALS become, and how they are read and shown. */
  static final class Numbers {
    static final int MOST_SCALE = 200;
    static final int MOST_DIGITS = 300;
    private static final int MOST_BITS = 2048;
    private static final int MOST_TIMES = 4096;
    private static final int LIMBS = 220;
    private final Bytes taken;
    private final Bytes out;
    private final Bytes built = new Bytes();
    private final Big made = new Big(LIMBS);
    private final Big second = new Big(LIMBS);
    private final Big third = new Big(LIMBS);
    private final Big fourth = new Big(LIMBS);
    private final Big rest = new Big(LIMBS);
    private final Big norm = new Big(LIMBS);
    private final Big one = new Big(2);

    Numbers(Bytes taken, Bytes out) {
      this.taken = taken;
      this.out = out;
    }

    // WHOLES

    /** What is made stands in made first, as o may be p or q. */
    int makeWhole(Big o, int op, Big p, Big q) {
      one.become(1);
      switch (op) {
        case 0:
        case 1:
          made.add(p, q, op == 0 ? 1 : -1);
          break;
        case 2:
          made.multiply(p, q);
          break;
        case 3:
        case 4:
        case 5:
          share(op, p, q);
          break;
        case 6:
          greatestDivisor(p, q);
          break;
        case 7:
          power(p, q);
          break;
        case 8:
          powerMod(p, q, o);
          break;
        case 9:
          root(p);
          break;
        case 13:
          shift(p, q);
          break;
        default:
          joinBits(op, p, q);
          break;
      }
      needBits(made.bitLength());
      o.copy(made);
      return o.sign;
    }

    private static void needBits(long bits) {
      if (bits > MOST_BITS) {
        throw new ArithmeticException();
      }
    }

    /** For what a WHOLE must be above, or in, to be used. */
    private static void need(boolean fit) {
      if (!fit) {
        throw new ArithmeticException();
      }
    }

    private void share(int op, Big p, Big q) {
      need(op == 5 ? q.sign > 0 : q.sign != 0);
      Big.divide(p, q, made, rest, norm);
      if (op == 3) {
        made.sign *= p.sign * q.sign;
        return;
      }
      made.copy(rest);
      made.sign *= p.sign;
      if (op == 5 && made.sign < 0) {
        made.add(made, q, 1);
      }
    }

    private void greatestDivisor(Big p, Big q) {
      made.copy(p);
      second.copy(q);
      for (int n = 0; n < 2 * MOST_BITS && second.len > 0; n++) {
        Big.divide(made, second, third, rest, norm);
        made.copy(second);
        second.copy(rest);
      }
      made.sign = made.len == 0 ? 0 : 1;
    }

    /** The value of a WHOLE, if it is in a range. */
    private static int small(Big q, int least, int most) {
      need(q.bitLength() <= 31);
      long v = q.sign * q.limb(0);
      need(v >= least && v <= most);
      return (int) v;
    }

    /** From the highest bit of q on no product is greater than the last one. */
    private void power(Big p, Big q) {
      int times = small(q, 0, MOST_TIMES);
      made.become(1);
      for (int i = q.bitLength() - 1; i >= 0 && times > 0; i--) {
        second.multiply(made, made);
        needBits(second.bitLength());
        made.copy(second);
        if (q.bit(i)) {
          second.multiply(made, p);
          needBits(second.bitLength());
          made.copy(second);
        }
      }
    }

    private void powerMod(Big p, Big q, Big mod) {
      need(mod.sign > 0 && q.sign >= 0);
      share(5, p, mod);
      fourth.copy(made);
      share(5, one, mod);
      for (int i = q.bitLength() - 1; i >= 0; i--) {
        multiplyMod(made, mod);
        if (q.bit(i)) {
          multiplyMod(fourth, mod);
        }
      }
    }

    /** The number made becomes it times by mod a number. */
    private void multiplyMod(Big by, Big mod) {
      second.multiply(made, by);
      Big.divide(second, mod, third, rest, norm);
      made.copy(rest);
    }

    /** By Newton from above: each step is below the one before until the root is there. */
    private void root(Big p) {
      need(p.sign >= 0);
      if (p.sign == 0) {
        made.become(0);
        return;
      }
      made.become(1);
      made.shift(made, (p.bitLength() + 1) / 2);
      for (int n = 0; n < MOST_BITS; n++) {
        Big.divide(p, made, second, rest, norm);
        second.add(second, made, 1);
        second.shift(second, -1);
        if (Big.compareSizes(second, made) >= 0) {
          break;
        }
        made.copy(second);
      }
    }

    private void shift(Big p, Big q) {
      int n = small(q, -MOST_TIMES, MOST_TIMES);
      if (p.sign == 0) {
        made.become(0);
        return;
      }
      needBits((long) p.bitLength() + n);
      boolean lost = n < 0 && p.zerosAtEnd() < -n;
      made.shift(p, n);
      if (p.sign < 0 && lost) {
        made.add(made, one, -1);
      }
    }

    private void joinBits(int op, Big p, Big q) {
      int n = Math.max(p.len, q.len) + 1;
      for (int i = 0; i < n; i++) {
        int x = p.limbWithSign(i);
        int y = q.limbWithSign(i);
        second.mag[i] = op == 10 ? x & y : op == 11 ? x | y : x ^ y;
      }
      second.len = n;
      boolean minus = second.mag[n - 1] < 0;
      second.sign = minus ? -1 : 1;
      for (int i = 0; i < n; i++) {
        made.mag[i] = second.limbWithSign(i);
      }
      made.len = n;
      made.sign = second.sign;
      made.trim();
    }

    /** What tell() asks of a WHOLE, and sign and digits of a DECIMAL. */
    long about(Big t, int what) {
      switch (what) {
        case 0:
          return t.sign;
        case 1:
          return t.sign < 0 && t.zerosAtEnd() == t.bitLength() - 1 ? t.bitLength() - 1 : t.bitLength();
        case 2:
          return (long) t.limbWithSign(1) << 32 | t.limbWithSign(0) & 0xFFFFFFFFL;
        case 3:
          return digits(t);
        case 4:
          return t.sign == 0 ? -1 : t.zerosAtEnd();
        default:
          return t.sign > 0 && t.bitLength() <= 31 && isPrime(t.limb(0)) ? 1 : 0;
      }
    }

    private int digits(Big t) {
      third.copy(t);
      int n = 1;
      for (int i = 0; i < 32 * LIMBS && third.len > 1; i++) {
        third.divideSmall(1000000000);
        n += 9;
      }
      for (long v = third.limb(0) / 10; v > 0; v /= 10) {
        n++;
      }
      return n;
    }

    private static boolean isPrime(long v) {
      for (long d = 2; d * d <= v; d++) {
        if (v % d == 0) {
          return false;
        }
      }
      return v >= 2;
    }

    /** By value; DECIMALS are brought to the same SCALE. */
    int compare(Thing t, Thing other) {
      if (t.kind == Thing.WHOLE) {
        return Big.compare(t.num, other.num);
      }
      align(t, other);
      return Big.compare(made, second);
    }

    // DECIMALS

    /** The two stand in made and second then, at the greater SCALE, which is answered. */
    private int align(Thing p, Thing q) {
      int scale = Math.max(p.value, q.value);
      made.copy(p.num);
      made.raiseTens(scale - p.value);
      second.copy(q.num);
      second.raiseTens(scale - q.value);
      return scale;
    }

    int makeDecimal(Thing o, int op, Thing p, Thing q, int n) {
      int scale = n / 8;
      int mode = Math.floorMod(n, 8);
      one.become(1);
      switch (op) {
        case 0:
        case 1:
          scale = align(p, q);
          made.add(made, second, op == 0 ? 1 : -1);
          break;
        case 2:
          scale = p.value + q.value;
          made.multiply(p.num, q.num);
          break;
        case 3:
          shareAt(scale, mode, p, q);
          break;
        case 4:
          made.copy(p.num);
          scaleBy(scale - p.value, mode);
          break;
        case 5:
          made.copy(p.num);
          scale = p.value;
          for (int turn = 0; turn < 3; turn++) {
            int more = Math.max(digits(made) - n / 8, 0);
            scaleBy(-more, mode);
            scale -= more;
          }
          break;
        case 6:
          scale = strip(p);
          break;
        default:
          scale = align(p, q);
          need(second.sign != 0);
          int sign = made.sign;
          Big.divide(made, second, third, rest, norm);
          made.copy(rest);
          made.sign *= sign;
          break;
      }
      need(scale >= -MOST_SCALE && scale <= MOST_SCALE && digits(made) <= MOST_DIGITS);
      o.num.copy(made);
      o.value = scale;
      return o.num.sign;
    }

    private void shareAt(int scale, int mode, Thing p, Thing q) {
      need(q.num.sign != 0);
      int tens = scale - p.value + q.value;
      made.copy(p.num);
      made.raiseTens(Math.max(tens, 0));
      second.copy(q.num);
      second.raiseTens(Math.max(-tens, 0));
      divideBySecond(mode);
    }

    /** The number made becomes it times 10^tens, or it by 10^-tens by MODE. */
    private void scaleBy(int tens, int mode) {
      if (tens >= 0) {
        made.raiseTens(tens);
        return;
      }
      second.become(1);
      second.raiseTens(-tens);
      divideBySecond(mode);
    }

    /** The number made becomes it by second, to whole by MODE. */
    private void divideBySecond(int mode) {
      int sign = made.sign * second.sign;
      third.copy(made);
      Big.divide(third, second, made, rest, norm);
      made.sign = sign;
      if (rest.len > 0) {
        rest.shift(rest, 1);
        if (isAway(mode, sign, Big.compareSizes(rest, second))) {
          made.sign = made.len == 0 ? 0 : 1;
          made.add(made, one, 1);
          made.sign = sign;
        }
      }
      made.sign = made.len == 0 ? 0 : made.sign;
    }

    /** Half tells how what is left stands to a half of what divides. */
    private boolean isAway(int mode, int sign, int half) {
      need(mode != 7);
      switch (mode) {
        case 0:
          return true;
        case 1:
          return false;
        case 2:
          return sign > 0;
        case 3:
          return sign < 0;
        case 4:
          return half >= 0;
        case 5:
          return half > 0;
        default:
          return half > 0 || half == 0 && made.bit(0);
      }
    }

    /** The number made is p without 0s at its end; answers the SCALE of that. */
    private int strip(Thing p) {
      made.copy(p.num);
      if (made.sign == 0) {
        return 0;
      }
      int scale = p.value;
      int sign = made.sign;
      for (int n = 0; n <= MOST_DIGITS; n++) {
        third.copy(made);
        if (third.divideSmall(10) != 0) {
          break;
        }
        made.copy(third);
        scale--;
      }
      made.sign = sign;
      return scale;
    }

    // reading and showing

    private int digitAt(int i, int radix) {
      int b = taken.get(i);
      int v = b >= '0' && b <= '9' ? b - '0' : b >= 'a' && b <= 'z' ? b - 'a' + 10 : radix;
      return v < radix ? v : -1;
    }

    int readWhole(Big o, int radix) {
      int first = taken.get(0) == '-' ? 1 : 0;
      int i = first;
      while (i - first < 600 && digitAt(i, radix) >= 0) {
        i++;
      }
      if (i == first || i < taken.size) {
        return taken.broken(i);
      }
      made.become(0);
      for (int k = first; k < i; k++) {
        made.multiplySmall(radix, digitAt(k, radix));
      }
      made.sign *= first == 1 ? -1 : 1;
      needBits(made.bitLength());
      o.copy(made);
      return taken.size;
    }

    int readDecimal(Thing o) {
      int first = taken.get(0) == '-' ? 1 : 0;
      int point = -1;
      int i = first;
      made.become(0);
      for (int digits = 0; i < taken.size; i++) {
        int digit = digitAt(i, 10);
        boolean full = digits >= MOST_DIGITS || point >= 0 && i - point > MOST_SCALE;
        if (taken.get(i) == '.' && point < 0 && i > first) {
          point = i;
        } else if (digit < 0 || full) {
          break;
        } else {
          made.multiplySmall(10, digit);
          digits++;
        }
      }
      if (i < taken.size || i == first || point == i - 1) {
        return taken.broken(i);
      }
      made.sign *= first == 1 ? -1 : 1;
      o.num.copy(made);
      o.value = point < 0 ? 0 : i - 1 - point;
      return taken.size;
    }

    /** OUT is the number; its digits come from behind. */
    int write(Thing t, int radix) {
      int scale = t.kind == Thing.DECIMAL ? t.value : 0;
      made.copy(t.num);
      made.raiseTens(Math.max(-scale, 0));
      built.size = 0;
      for (int n = 0; n < 32 * LIMBS && (n <= scale || n == 0 || made.len > 0); n++) {
        if (scale > 0 && n == scale) {
          built.add('.');
        }
        int digit = made.divideSmall(radix);
        built.add(digit < 10 ? digit + '0' : digit - 10 + 'a');
      }
      if (t.num.sign < 0) {
        built.add('-');
      }
      built.turnRound(0);
      out.copy(built);
      return out.size;
    }
  }

  /** Reads a STREAM from THE TAPE and asks it for its ELEMENTS, one after the other. */
  static final class Streams {
    private static final int MOST_STAGES = 20;
    private static final int MOST_OF_SOURCE = 10000;
    private static final int MOST_GIVEN = 1000000;
    private static final int LEAST = -999999999;
    private static final int GREATEST = 999999999;
    private static final String SOURCES = "range list keys values iterate";
    private static final int RANGE = 0;
    private static final int OF_LIST = 1;
    private static final int OF_KEYS = 2;
    private static final int OF_VALUES = 3;
    private static final String STAGES =
        "filter map copies distinct sorted limit skip while until";
    private static final int FILTER = 0;
    private static final int CHANGE = 1;
    private static final int COPIES = 2;
    private static final int DISTINCT = 3;
    private static final int SORTED = 4;
    private static final int LIMIT = 5;
    private static final int SKIP = 6;
    private static final int WHILE = 7;
    private static final int UNTIL = 8;
    private static final String ENDS =
        "count sum least greatest first any all none fold list group";
    private static final int COUNT = 0;
    private static final int SUM = 1;
    private static final int SMALLEST = 2;
    private static final int LARGEST = 3;
    private static final int FIRST = 4;
    private static final int ANY = 5;
    private static final int ALL = 6;
    private static final int NO_ONE = 7;
    private static final int FOLD = 8;
    private static final int TO_LIST = 9;
    private static final int TO_GROUP = 10;

    private final Thing[] shelf;
    private final Maps maps;
    private final Bytes in;
    /** By STAGE, the SOURCE being 0 and the END behind the last one: what it is. */
    private final int[] kind = new int[MOST_STAGES + 2];
    /** Which P, F or G it has. */
    private final int[] code = new int[MOST_STAGES + 2];
    /** The number of that, or its own one. */
    private final int[] arg = new int[MOST_STAGES + 2];
    /** Where it stands: how many are left, or behind; whether it has begun or ended. */
    private final int[] state = new int[MOST_STAGES + 2];
    /** The ELEMENT that copies are made of; where range stands. */
    private final int[] held = new int[MOST_STAGES + 2];
    private final int[][] kept = new int[MOST_STAGES + 2][16];
    private int[] spare = new int[0];
    private int end;
    private int sourceSize;
    /** What END makes, until it is known that it comes to be there. */
    private Thing bundle = new Thing();
    /** The ELEMENT that goes through. */
    private int x;
    private int sourced;
    private int given;
    private int asked;
    int called;

    Streams(Thing[] shelf, Maps maps, Bytes in) {
      this.shelf = shelf;
      this.maps = maps;
      this.in = in;
    }

    // reading

    void readAll() {
      readSource();
      end = 0;
      for (int i = 1; i <= MOST_STAGES + 1 && end == 0; i++) {
        if (in.sign("|") < 0) {
          in.broken(in.at);
        }
        in.skip();
        int first = in.at;
        int stage = in.known(STAGES);
        if (stage >= 0 && i > MOST_STAGES) {
          in.broken(first);
        }
        if (stage >= 0) {
          readStage(i, stage);
        } else {
          readEnd(i);
          end = i;
        }
      }
      in.needEnd();
    }

    private int needWord(String words) {
      int w = in.known(words);
      return w >= 0 ? w : in.broken(in.at);
    }

    private int anyNumber() {
      return in.number(LEAST, GREATEST);
    }

    private void readSource() {
      kind[0] = needWord(SOURCES);
      if (kind[0] == RANGE) {
        held[0] = anyNumber();
        arg[0] = anyNumber();
      } else if (kind[0] <= OF_VALUES) {
        arg[0] = in.number(0, Thing.PLACES - 1);
      } else {
        held[0] = anyNumber();
        readChange(0);
      }
    }

    private void readStage(int i, int stage) {
      kind[i] = stage;
      switch (stage) {
        case FILTER:
        case WHILE:
        case UNTIL:
          readTest(i);
          break;
        case CHANGE:
          readChange(i);
          break;
        case COPIES:
          arg[i] = in.number(0, 100);
          break;
        case SORTED:
          arg[i] = in.number(0, 3);
          break;
        case LIMIT:
        case SKIP:
          arg[i] = in.number(0, GREATEST);
          break;
        default:
          break;
      }
    }

    private void readEnd(int i) {
      kind[i] = needWord(ENDS);
      switch (kind[i]) {
        case ANY:
        case ALL:
        case NO_ONE:
          readTest(i);
          break;
        case FOLD:
          arg[i] = anyNumber();
          code[i] = needSign("+*>^");
          break;
        case TO_GROUP:
          arg[i] = in.number(1, GREATEST);
          break;
        default:
          break;
      }
    }

    private int needSign(String signs) {
      int s = in.sign(signs);
      return s >= 0 ? s : in.broken(in.at);
    }

    private void readTest(int i) {
      code[i] = in.known("even odd div");
      if (code[i] < 0) {
        code[i] = 3 + needSign("><=");
      }
      if (code[i] >= 2) {
        arg[i] = anyNumber();
      }
    }

    private void readChange(int i) {
      code[i] = in.known("neg abs");
      if (code[i] < 0) {
        code[i] = 2 + needSign("+-*/%");
        arg[i] = anyNumber();
      }
    }

    /** What a SOURCE that is an OBJECT has is kept; nothing changes it as long as the STREAM runs. */
    void keepSource() {
      sourceSize = 0;
      if (kind[0] < OF_LIST || kind[0] > OF_VALUES) {
        return;
      }
      Thing source = Thing.find(shelf, arg[0]);
      if (kind[0] == OF_LIST) {
        source.needRow();
        source.needFresh();
        sourceSize = source.size;
        System.arraycopy(source.root.row, source.at, keptRow(0, sourceSize), 0, sourceSize);
        return;
      }
      source.needMap();
      sourceSize = maps.sizeOf(source);
      int[] from = kind[0] == OF_KEYS ? source.root.row : source.root.vals;
      int[] row = keptRow(0, sourceSize);
      for (int i = 0; i < sourceSize; i++) {
        row[i] = from[maps.placeOf(source, i)];
      }
    }

    boolean makesOne() {
      return kind[end] == TO_LIST || kind[end] == TO_GROUP;
    }

    // P, F and G

    private static void refuse() {
      throw new ArithmeticException();
    }

    private boolean test(int i) {
      asked++;
      switch (code[i]) {
        case 0:
          return x % 2 == 0;
        case 1:
          return x % 2 != 0;
        case 2:
          return rest(x, arg[i]) == 0;
        case 3:
          return x > arg[i];
        case 4:
          return x < arg[i];
        default:
          return x == arg[i];
      }
    }

    private static int rest(int v, int by) {
      if (by == 0) {
        throw new ArithmeticException();
      }
      return v % by;
    }

    private static int quotient(int v, int by) {
      if (by == 0) {
        throw new ArithmeticException();
      }
      return v / by;
    }

    private int change(int i, int v) {
      asked++;
      switch (code[i]) {
        case 0:
          return -v;
        case 1:
          return Math.abs(v);
        case 2:
          return v + arg[i];
        case 3:
          return v - arg[i];
        case 4:
          return v * arg[i];
        case 5:
          return quotient(v, arg[i]);
        default:
          return rest(v, arg[i]);
      }
    }

    private int join(int i, int v) {
      asked++;
      switch (code[i]) {
        case 0:
          return v + x;
        case 1:
          return v * x;
        case 2:
          return Math.max(v, x);
        default:
          return v ^ x;
      }
    }

    // asking

    /** Asks the SOURCE or a STAGE for its next ELEMENT, which is x then; false if there is none. */
    private boolean ask(int i) {
      if (i <= 0) {
        return askSource();
      }
      switch (kind[i]) {
        case CHANGE:
          if (!isGiven(i)) {
            return false;
          }
          x = change(i, x);
          return true;
        case COPIES:
          return askCopies(i);
        case SORTED:
          return askSorted(i);
        case LIMIT:
          return state[i]++ < arg[i] && isGiven(i);
        case SKIP:
          for (int n = 0; n <= MOST_GIVEN && state[i] < arg[i] && isGiven(i); n++) {
            state[i]++;
          }
          return state[i] >= arg[i] && isGiven(i);
        case WHILE:
          return isGiven(i) && test(i);
        default:
          return askFitting(i);
      }
    }

    /** Filter, distinct and until: the next one of those given that goes on. */
    private boolean askFitting(int i) {
      for (int n = 0; n <= MOST_GIVEN && isGiven(i); n++) {
        if (kind[i] == FILTER && test(i) || kind[i] == DISTINCT && isNew(i)) {
          return true;
        }
        if (kind[i] == UNTIL && (state[i] == 1 || test(i))) {
          state[i] = 1;
          return true;
        }
      }
      return false;
    }

    /** Whether the STAGE before had one to give to STAGE i, or to the END; no more than the limit. */
    private boolean isGiven(int i) {
      if (!ask(i - 1)) {
        return false;
      }
      given++;
      if (given > MOST_GIVEN) {
        refuse();
      }
      return true;
    }

    private boolean askSource() {
      boolean there;
      if (kind[0] == RANGE) {
        there = held[0] < arg[0];
        x = there ? held[0]++ : 0;
      } else if (kind[0] <= OF_VALUES) {
        there = sourced < sourceSize;
        x = there ? keptRow(0, sourceSize)[sourced] : 0;
      } else {
        there = true;
        held[0] = sourced > 0 ? change(0, held[0]) : held[0];
        x = held[0];
      }
      if (there && ++sourced > MOST_OF_SOURCE) {
        refuse();
      }
      return there;
    }

    private boolean askCopies(int i) {
      for (int n = 0; n <= MOST_GIVEN && state[i] == 0; n++) {
        if (!isGiven(i)) {
          return false;
        }
        held[i] = x;
        state[i] = arg[i];
      }
      state[i]--;
      x = held[i];
      return true;
    }

    private static void needKept(int n, int most) {
      if (n >= most) {
        refuse();
      }
    }

    /** The state is the place behind the one that went last, 1 more; how many there are is held. */
    private boolean askSorted(int i) {
      if (state[i] == 0) {
        int n = 0;
        for (; n <= MOST_GIVEN && isGiven(i); n++) {
          needKept(n, Rows.MOST);
          keptRow(i, n + 1)[n] = x;
        }
        spare = Thing.grown(spare, n);
        Rows.sort(keptRow(i, n), 0, n, arg[i], spare);
        held[i] = n;
        state[i] = 1;
      }
      if (state[i] > held[i]) {
        return false;
      }
      x = keptRow(i, held[i])[state[i]++ - 1];
      return true;
    }

    private int[] keptRow(int i, int n) {
      kept[i] = Thing.grown(kept[i], n);
      return kept[i];
    }

    /** The row is in rising order, and the state tells how many it has. */
    private boolean isNew(int i) {
      int n = state[i];
      int at = Rows.firstNotBelow(keptRow(i, n), n, x);
      if (at < n && keptRow(i, n)[at] == x) {
        return false;
      }
      needKept(n, Rows.MOST);
      int[] row = keptRow(i, n + 1);
      System.arraycopy(row, at, row, at + 1, n - at);
      row[at] = x;
      state[i]++;
      return true;
    }

    // the END

    /** Runs the STREAM; what it makes comes to a place that is free. */
    long play(int free) {
      Arrays.fill(state, 0);
      sourced = 0;
      given = 0;
      asked = 0;
      long answer;
      switch (kind[end]) {
        case COUNT:
        case SUM:
          answer = total(kind[end] == SUM);
          break;
        case SMALLEST:
        case LARGEST:
        case FIRST:
          answer = choose(kind[end]);
          break;
        case ANY:
        case ALL:
        case NO_ONE:
          answer = decide(kind[end]);
          break;
        case FOLD:
          answer = fold();
          break;
        default:
          answer = collect(free);
          break;
      }
      called = asked;
      return answer;
    }

    private long total(boolean sum) {
      long total = 0;
      for (int n = 0; n <= MOST_GIVEN && isGiven(end); n++) {
        total += sum ? x : 1;
      }
      return total;
    }

    private long choose(int how) {
      boolean any = false;
      int best = 0;
      for (int n = 0; n <= MOST_GIVEN && isGiven(end); n++) {
        if (how == FIRST) {
          return x;
        }
        best = !any ? x : how == SMALLEST ? Math.min(best, x) : Math.max(best, x);
        any = true;
      }
      return any ? best : Thing.NONE;
    }

    private long decide(int how) {
      for (int n = 0; n <= MOST_GIVEN && isGiven(end); n++) {
        if (test(end) != (how == ALL)) {
          return how == ANY ? 1 : 0;
        }
      }
      return how == ANY ? 0 : 1;
    }

    private long fold() {
      int v = arg[end];
      for (int n = 0; n <= MOST_GIVEN && isGiven(end); n++) {
        v = join(end, v);
      }
      return v;
    }

    private long collect(int free) {
      boolean list = kind[end] == TO_LIST;
      bundle.renew(list ? Thing.LIST : Thing.HASH, 0, 0);
      for (int n = 0; n <= MOST_GIVEN && isGiven(end); n++) {
        if (list) {
          needKept(bundle.size, Rows.MOST);
          bundle.room(bundle.size + 1);
          bundle.row[bundle.size++] = x;
        } else {
          int key = Math.floorMod(x, Math.max(arg[end], 1));
          if (maps.find(bundle, key) < 0) {
            needKept(bundle.size, Maps.MOST);
          }
          maps.raise(bundle, key, 1);
        }
      }
      if (list && bundle.size > 0) {
        bundle.cap = Math.max(bundle.size, 10);
      }
      Thing old = shelf[free];
      shelf[free] = bundle;
      bundle = old;
      return free;
    }
  }

  /** THREADS: each does an INSTRUCTION a step, and stands in the row of what it waits for. */
  static final class Threads {
    static final int MOST = 8;
    private static final int MOST_INSTRUCTIONS = 60;
    private static final int NOT_THERE = 0;
    private static final int READY = 1;
    private static final int WAITING = 2;
    private static final int SLEEPING = 3;
    private static final int ENDED = 4;
    private static final int FAILED = 5;
    private static final int LEAST = -999999999;
    private static final int GREATEST = 999999999;
    private static final int DISTURBED = -2;
    private static final String WORDS = "load add jump zero less sleep end lock try unlock wait signal all get set inc cas acquire release drain down await meet put take offer poll give join";
    /** What stands behind each word: n any number, p one above 0, k an INSTRUCTION, o an OBJECT. */
    private static final String NUMBERS =
        "n  n  k  k  k  n     o  o  o  o  o  o  o  o  on onnop op o  o  o  o  o  o  o  o  o  o  ";
    private static final int LOAD = 0;
    private static final int ADD = 1;
    private static final int JUMP = 2;
    private static final int ZERO = 3;
    private static final int LESS = 4;
    private static final int SLEEP = 5;
    private static final int END = 6;
    private static final int LOCK = 7;
    private static final int TRY = 8;
    private static final int UNLOCK = 9;
    private static final int WAIT = 10;
    private static final int SIGNAL = 11;
    private static final int ALL = 12;
    private static final int GET = 13;
    private static final int SET = 14;
    private static final int INC = 15;
    private static final int CAS = 16;
    private static final int ACQUIRE = 17;
    private static final int RELEASE = 18;
    private static final int DRAIN = 19;
    private static final int DOWN = 20;
    private static final int AWAIT = 21;
    private static final int MEET = 22;
    private static final int PUT = 23;
    private static final int TAKE = 24;
    private static final int OFFER = 25;
    private static final int POLL = 26;
    private static final int GIVE = 27;

    private final Thing[] shelf;
    private final Bytes in;
    /** Four numbers an INSTRUCTION: the word, and up to three behind it. */
    private final int[][] code = new int[MOST][4 * MOST_INSTRUCTIONS];
    private final int[] draft = new int[4 * MOST_INSTRUCTIONS];
    private final int[] length = new int[MOST];
    private final int[] state = new int[MOST];
    private final int[] a = new int[MOST];
    private final int[] at = new int[MOST];
    private final boolean[] disturbed = new boolean[MOST];
    private final int[] why = new int[MOST];
    /** In which row of the OBJECT it is: 0 none, 1 the first, 2 the second. */
    private final int[] row = new int[MOST];
    private final int[] object = new int[MOST];
    /** Who came to a row earlier has a lower one. */
    private final long[] ticket = new long[MOST];
    /** Of wait: the COUNT that it had, else 0; and what A is when it has the LOCK again. */
    private final int[] hold = new int[MOST];
    private final int[] later = new int[MOST];
    private final long[] until = new long[MOST];
    private long tickets;
    long clock;

    Threads(Thing[] shelf, Bytes in) {
      this.shelf = shelf;
      this.in = in;
    }

    // reading

    /** Reads a PROGRAM; answers how many INSTRUCTIONS it has. */
    int readProgram() {
      int n = 0;
      boolean more = true;
      in.partBy(';');
      for (int turn = 0; turn <= MOST_INSTRUCTIONS && more; turn++) {
        in.skip();
        int first = in.at;
        int word = in.known(WORDS);
        if (word < 0 || n >= MOST_INSTRUCTIONS) {
          in.broken(first);
        }
        draft[4 * n] = word;
        for (int i = 0; i < 3; i++) {
          draft[4 * n + 1 + i] = readNumber(NUMBERS.charAt(3 * word + i));
        }
        n++;
        more = in.goesOn();
      }
      in.needEnd();
      return n;
    }

    private int readNumber(int what) {
      switch (what) {
        case 'n':
          return in.number(LEAST, GREATEST);
        case 'p':
          return in.number(1, GREATEST);
        case 'k':
          return in.number(0, MOST_INSTRUCTIONS - 1);
        case 'o':
          return in.number(0, Thing.PLACES - 1);
        default:
          return 0;
      }
    }

    /** The PROGRAM that was read is that of a new THREAD. */
    int begin(int instructions) {
      int t = 0;
      while (t < MOST && state[t] >= READY && state[t] <= SLEEPING) {
        t++;
      }
      if (t >= MOST) {
        throw new IllegalStateException();
      }
      System.arraycopy(draft, 0, code[t], 0, 4 * instructions);
      length[t] = instructions;
      state[t] = READY;
      a[t] = 0;
      at[t] = 0;
      disturbed[t] = false;
      why[t] = 0;
      leaveRow(t);
      return t;
    }

    // rows

    private void leaveRow(int t) {
      row[t] = 0;
      object[t] = -1;
      hold[t] = 0;
    }

    boolean anyInRow(int o) {
      return howMany(o, 1) > 0 || howMany(o, 2) > 0;
    }

    private int howMany(int o, int which) {
      int n = 0;
      for (int t = 0; t < MOST; t++) {
        n += row[t] == which && object[t] == o ? 1 : 0;
      }
      return n;
    }

    private int firstIn(int o, int which) {
      int first = -1;
      for (int t = 0; t < MOST; t++) {
        if (row[t] == which && object[t] == o && (first < 0 || ticket[t] < ticket[first])) {
          first = t;
        }
      }
      return first;
    }

    private void joinRow(int t, int o, int which) {
      state[t] = WAITING;
      row[t] = which;
      object[t] = o;
      ticket[t] = tickets++;
    }

    /** It waits, or goes on at once if it was interrupted before. */
    private void waitFor(int t, int o) {
      if (!isDisturbed(t)) {
        joinRow(t, o, 1);
      }
    }

    /** Whether an interrupt keeps it from waiting; that is over then. */
    private boolean isDisturbed(int t) {
      if (!disturbed[t]) {
        return false;
      }
      disturbed[t] = false;
      a[t] = DISTURBED;
      goTo(t, at[t] + 1);
      return true;
    }

    private void goTo(int t, int instruction) {
      at[t] = instruction;
      if (instruction >= length[t]) {
        state[t] = ENDED;
      }
    }

    private void goOn(int t) {
      leaveRow(t);
      state[t] = READY;
      goTo(t, at[t] + 1);
    }

    private void allGoOn(int o) {
      for (int n = 0; n < MOST; n++) {
        int t = firstIn(o, 1);
        if (t >= 0) {
          goOn(t);
        }
      }
    }

    private void fail(int t, int reason) {
      state[t] = FAILED;
      why[t] = reason;
    }

    // steps

    int act(int t) {
      int before = at[t];
      int i = 4 * before;
      if (state[t] != READY || i < 0 || i >= code[t].length) {
        return state[t];
      }
      int word = code[t][i];
      int o = code[t][i + 1];
      if (row[t] != 0) {
        claim(t);
        return state[t];
      }
      if (word <= END) {
        actAlone(t, word, o);
        return state[t];
      }
      if (o < 0 || o >= shelf.length || shelf[o].kind != kindFor(word)) {
        fail(t, 2);
        return state[t];
      }
      switch (shelf[o].kind) {
        case Thing.LOCK:
          actOnLock(t, word, o, shelf[o]);
          break;
        case Thing.CELL:
          actOnCell(t, word, shelf[o]);
          break;
        case Thing.SEMAPHORE:
          actOnSemaphore(t, word, o, shelf[o]);
          break;
        case Thing.LATCH:
          actOnLatch(t, word, o, shelf[o]);
          break;
        case Thing.BARRIER:
          actOnBarrier(t, o, shelf[o]);
          break;
        case Thing.QUEUE:
          actOnQueue(t, word, o, shelf[o]);
          break;
        default:
          actOnFuture(t, word, o, shelf[o]);
          break;
      }
      if (state[t] == READY && at[t] == before) {
        goTo(t, before + 1);
      }
      return state[t];
    }

    private static int kindFor(int word) {
      return word <= ALL ? Thing.LOCK
          : word <= CAS ? Thing.CELL
          : word <= DRAIN ? Thing.SEMAPHORE
          : word <= AWAIT ? Thing.LATCH
          : word <= MEET ? Thing.BARRIER
          : word <= POLL ? Thing.QUEUE : Thing.FUTURE;
    }

    private void actAlone(int t, int word, int n) {
      int next = at[t] + 1;
      switch (word) {
        case LOAD:
          a[t] = n;
          break;
        case ADD:
          a[t] += n;
          break;
        case JUMP:
          next = n;
          break;
        case ZERO:
          next = a[t] == 0 ? n : next;
          break;
        case LESS:
          next = a[t] < 0 ? n : next;
          break;
        case SLEEP:
          if (n > 0) {
            if (!isDisturbed(t)) {
              state[t] = SLEEPING;
              until[t] = clock + n;
            }
            return;
          }
          break;
        default:
          next = length[t];
          break;
      }
      goTo(t, next);
    }

    private void actOnLock(int t, int word, int o, Thing lock) {
      boolean own = lock.owner == t;
      if (word == LOCK || word == TRY) {
        boolean has = own || lock.owner < 0;
        if (has) {
          lock.owner = t;
          lock.value++;
        } else if (word == LOCK) {
          joinRow(t, o, 1);
        }
        a[t] = word == LOCK ? a[t] : has ? 1 : 0;
        return;
      }
      if (!own) {
        fail(t, 1);
        return;
      }
      if (word == UNLOCK) {
        lock.value--;
        if (lock.value == 0) {
          free(lock, o);
        }
      } else if (word == WAIT) {
        if (!isDisturbed(t)) {
          hold[t] = lock.value;
          later[t] = 1;
          free(lock, o);
          joinRow(t, o, 2);
        }
      } else {
        signal(o, word == SIGNAL ? 1 : MOST);
      }
    }

    /** The LOCK is free; the first that waits has it at once if it is FAIR, else when it steps. */
    private void free(Thing lock, int o) {
      lock.owner = -1;
      lock.value = 0;
      int first = firstIn(o, 1);
      if (first < 0) {
        return;
      }
      if (lock.rule == 1) {
        have(first, lock);
      } else {
        state[first] = READY;
      }
    }

    /** One in the first row has the LOCK, and what it had of it before wait. */
    private void have(int t, Thing lock) {
      lock.owner = t;
      lock.value = Math.max(hold[t], 1);
      a[t] = hold[t] > 0 ? later[t] : a[t];
      goOn(t);
    }

    private void signal(int o, int most) {
      for (int n = 0; n < most; n++) {
        int t = firstIn(o, 2);
        if (t >= 0) {
          joinRow(t, o, 1);
        }
      }
    }

    /** READY in the first row of a LOCK: has it if it is free, else waits on in its place. */
    private void claim(int t) {
      int o = object[t];
      if (o < 0 || o >= shelf.length) {
        return;
      }
      if (shelf[o].owner < 0) {
        have(t, shelf[o]);
      } else {
        state[t] = WAITING;
      }
    }

    private void actOnCell(int t, int word, Thing cell) {
      int i = 4 * at[t] + 2;
      int n = code[t][i];
      switch (word) {
        case GET:
          a[t] = cell.value;
          break;
        case SET:
          cell.value = a[t];
          break;
        case INC:
          cell.value += n;
          a[t] = cell.value;
          break;
        default:
          a[t] = cell.value == n ? 1 : 0;
          cell.value = cell.value == n ? code[t][i + 1] : cell.value;
          break;
      }
    }

    private void actOnSemaphore(int t, int word, int o, Thing semaphore) {
      int n = code[t][4 * at[t] + 2];
      if (word == ACQUIRE) {
        if (semaphore.value >= n && firstIn(o, 1) < 0) {
          semaphore.value -= n;
        } else {
          waitFor(t, o);
        }
      } else if (word == RELEASE) {
        semaphore.value += n;
        for (int turn = 0; turn < MOST; turn++) {
          int first = firstIn(o, 1);
          int wants = first < 0 ? 0 : code[first][4 * at[first] + 2];
          if (first < 0 || wants > semaphore.value) {
            break;
          }
          semaphore.value -= wants;
          goOn(first);
        }
      } else {
        a[t] = Math.max(semaphore.value, 0);
        semaphore.value = Math.min(semaphore.value, 0);
      }
    }

    private void actOnLatch(int t, int word, int o, Thing latch) {
      if (word == AWAIT) {
        if (latch.value > 0) {
          waitFor(t, o);
        }
      } else if (latch.value > 0) {
        latch.value--;
        if (latch.value == 0) {
          allGoOn(o);
        }
      }
    }

    private void actOnBarrier(int t, int o, Thing barrier) {
      a[t] = barrier.cap - howMany(o, 1) - 1;
      if (a[t] == 0) {
        allGoOn(o);
      } else {
        waitFor(t, o);
      }
    }

    /** In the row of a QUEUE that has ELEMENTS wait those that put, else those that take. */
    private void actOnQueue(int t, int word, int o, Thing queue) {
      int first = firstIn(o, 1);
      if (word == PUT || word == OFFER) {
        boolean fits = queue.size < queue.cap;
        if (fits && queue.size == 0 && first >= 0) {
          a[first] = a[t];
          goOn(first);
        } else if (fits) {
          append(queue, a[t]);
        } else if (word == PUT) {
          waitFor(t, o);
        }
        a[t] = word == PUT ? a[t] : fits ? 1 : 0;
        return;
      }
      if (queue.size > 0) {
        a[t] = queue.row[0];
        queue.size--;
        System.arraycopy(queue.row, 1, queue.row, 0, queue.size);
        if (first >= 0) {
          append(queue, a[first]);
          goOn(first);
        }
      } else if (word == TAKE) {
        waitFor(t, o);
      } else {
        a[t] = -1;
      }
    }

    private static void append(Thing queue, int element) {
      queue.room(queue.size + 1);
      queue.row[queue.size++] = element;
    }

    /** The size of a FUTURE is 1 if it has a VALUE. */
    private void actOnFuture(int t, int word, int o, Thing future) {
      if (word == GIVE) {
        boolean first = future.size == 0;
        if (first) {
          future.size = 1;
          future.value = a[t];
          for (int n = 0; n < MOST; n++) {
            int w = firstIn(o, 1);
            if (w >= 0) {
              a[w] = future.value;
              goOn(w);
            }
          }
        }
        a[t] = first ? 1 : 0;
      } else if (future.size == 1) {
        a[t] = future.value;
      } else {
        waitFor(t, o);
      }
    }

    // what the caller does

    int howManyReady() {
      int n = 0;
      for (int t = 0; t < MOST; t++) {
        n += state[t] == READY ? 1 : 0;
      }
      return n;
    }

    /** The READY one before which so many others are READY. */
    int readyOne(int others) {
      int left = others;
      for (int t = 0; t < MOST; t++) {
        if (state[t] == READY && left-- == 0) {
          return t;
        }
      }
      return 0;
    }

    int pass(int n) {
      clock += n;
      int awake = 0;
      for (int t = 0; t < MOST; t++) {
        if (state[t] == SLEEPING && until[t] <= clock) {
          goOn(t);
          awake++;
        }
      }
      return awake;
    }

    int disturb(int t) {
      switch (state[t]) {
        case READY:
          disturbed[t] = true;
          return 1;
        case WAITING:
          if (hold[t] > 0) {
            later[t] = DISTURBED;
            comeBack(t);
          } else {
            a[t] = DISTURBED;
            goOn(t);
          }
          return 1;
        case SLEEPING:
          a[t] = DISTURBED;
          goOn(t);
          return 1;
        default:
          return 0;
      }
    }

    /** From the second row of a LOCK to the first one, and on if the LOCK is free and none waits. */
    private void comeBack(int t) {
      int o = object[t];
      if (row[t] != 2 || o < 0 || o >= shelf.length) {
        return;
      }
      boolean alone = firstIn(o, 1) < 0;
      joinRow(t, o, 1);
      if (alone && shelf[o].owner < 0) {
        free(shelf[o], o);
      }
    }

    long about(int t, int what) {
      switch (what) {
        case 0:
          return state[t];
        case 1:
          return a[t];
        case 2:
          return state[t] == NOT_THERE || state[t] == ENDED ? -1 : at[t];
        case 3:
          return state[t] == WAITING ? object[t] : -1;
        case 4:
          return disturbed[t] ? 1 : 0;
        default:
          return why[t];
      }
    }

    /** From each one along those that have what they wait for, until one comes back to where it began. */
    int leastInRing() {
      for (int t = 0; t < MOST; t++) {
        int next = t;
        for (int n = 0; n < MOST && next >= 0; n++) {
          next = ownerOfAwaited(next);
          if (next == t) {
            return t;
          }
        }
      }
      return -1;
    }

    private int ownerOfAwaited(int t) {
      int o = object[t];
      if (state[t] != WAITING || row[t] != 1 || o < 0 || o >= shelf.length
          || shelf[o].kind != Thing.LOCK) {
        return -1;
      }
      return shelf[o].owner;
    }

    long aboutObject(Thing t, int o, int what) {
      switch (what) {
        case 0:
          return t.kind == Thing.BARRIER ? howMany(o, 1)
              : t.kind == Thing.QUEUE ? t.size
              : t.kind == Thing.FUTURE && t.size == 0 ? Thing.NONE : t.value;
        case 1:
          return howMany(o, 1);
        case 2:
          return t.owner;
        case 3:
          return howMany(o, 2);
        default:
          return t.cap;
      }
    }
  }
}
