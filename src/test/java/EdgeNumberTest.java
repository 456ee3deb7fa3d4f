/** The edges that the document names of WHOLES and DECIMALS (promises 11 to 14). */
public final class EdgeNumberTest {
  private static final String MOST = "f".repeat(512);

  public static void main(String[] args) {
    wholesAtTheLimit();
    carriedThroughAll();
    bitsAtTheLimit();
    powersAtTheLimit();
    shiftsAtTheLimit();
    byNought();
    quotientsWithSign();
    greatestDivisors();
    powersMod();
    powersModSmall();
    quotientsAtEachEdge();
    roots();
    setAndSigns();
    bitsTold();
    lowestTold();
    digitsTold();
    noughtsAtTheEnd();
    primes();
    orders();
    radixes();
    digitsOfEachRadix();
    longWholes();
    wholesShown();
    digitsShown();
    digitsAtTheLimit();
    scalesAtTheLimit();
    scaleAndMode();
    modes();
    modesOfQuotients();
    notJustSo();
    atMostSoManyDigits();
    onceMoreIfOneComes();
    withoutNoughts();
    restsOfDecimals();
    decimalsByNought();
    decimalsRead();
    decimalsShown();
    decimalsTold();
    Check.end("EdgeNumberTest");
  }

  /** A desk whose first OBJECTS are WHOLES of these, told in radix 16. */
  private static LibraryDesk wholes(String... values) {
    LibraryDesk x = new LibraryDesk();
    for (String v : values) {
      int o = x.make(11, 0, 0);
      Check.tape(x, v);
      x.read(o, 16);
    }
    return x;
  }

  private static LibraryDesk numbers(long... values) {
    LibraryDesk x = new LibraryDesk();
    for (long v : values) {
      x.set(x.make(11, 0, 0), v);
    }
    return x;
  }

  private static void is(LibraryDesk x, int o, int radix, String want) {
    Check.due(() -> x.show(o, radix), want.length());
    Check.same("number " + o, Check.out(x), want);
  }

  private static void makes(int op, long p, long q, long want) {
    LibraryDesk x = numbers(77, p, q);
    Check.due("whole " + op + " of " + p + " and " + q, () -> x.whole(0, op, 1, 2), Long.signum(want));
    is(x, 0, 10, "" + want);
    is(x, 1, 10, "" + p);
    is(x, 2, 10, "" + q);
  }

  private static void refuses(int op, long p, long q) {
    LibraryDesk x = numbers(77, p, q);
    Check.arithmetic(x, () -> x.whole(0, op, 1, 2));
    Check.arithmetic(x, () -> x.whole(0, op, 1, 2));
    is(x, 0, 10, "77");
  }

  /** "below 2^2048 in size (else ArithmeticException)": by sum, difference and product. */
  private static void wholesAtTheLimit() {
    LibraryDesk x = wholes(MOST, "-" + MOST, "1", "2", "80", "1" + "0".repeat(256), "-1" + "0".repeat(255));
    Check.arithmetic(x, () -> x.whole(0, 0, 0, 2));
    Check.arithmetic(x, () -> x.whole(0, 0, 2, 0));
    Check.arithmetic(x, () -> x.whole(1, 1, 1, 2));
    Check.arithmetic(x, () -> x.whole(2, 1, 0, 1));
    Check.arithmetic(x, () -> x.whole(2, 2, 0, 3));
    Check.arithmetic(x, () -> x.whole(2, 2, 1, 3));
    Check.arithmetic(x, () -> x.whole(2, 2, 0, 1));
    Check.arithmetic(x, () -> x.whole(2, 2, 5, 5));
    Check.due(() -> x.whole(3, 2, 5, 6), -1);
    Check.due(() -> x.tell(3, 1), 2044);
    Check.due(() -> x.whole(3, 2, 0, 2), 1);
    is(x, 3, 16, MOST);
    Check.due(() -> x.whole(3, 0, 0, 1), 0);
    Check.due(() -> x.whole(1, 0, 1, 2), -1);
    is(x, 1, 16, "-" + "f".repeat(511) + "e");
    Check.due(() -> x.whole(0, 1, 0, 2), 1);
    Check.due(() -> x.whole(0, 0, 0, 2), 1);
    is(x, 0, 16, MOST);
    Check.tape(x, "1" + "0".repeat(512));
    Check.arithmetic(x, () -> x.read(0, 16));
    Check.tape(x, "-1" + "0".repeat(512));
    Check.arithmetic(x, () -> x.read(0, 16));
    is(x, 0, 16, MOST);
    Check.tape(x, "0".repeat(88) + MOST);
    Check.due(() -> x.read(4, 16), 600);
    is(x, 4, 16, MOST);
  }

  /** 10 .. 12 "as of endless bits with sign", at the limit, too. */
  private static void bitsAtTheLimit() {
    LibraryDesk x = wholes("7", MOST, "-" + MOST, "-1", "-2");
    Check.arithmetic(x, () -> x.whole(0, 10, 2, 4));
    Check.arithmetic(x, () -> x.whole(0, 12, 1, 3));
    Check.due(() -> x.whole(0, 11, 2, 4), -1);
    is(x, 0, 16, "-1");
    Check.due(() -> x.whole(0, 10, 1, 3), 1);
    is(x, 0, 16, MOST);
    Check.due(() -> x.whole(0, 12, 1, 1), 0);
    long[][] all = {{10, 12, 10, 8}, {11, 12, 10, 14}, {12, 12, 10, 6}, {10, -1, 5, 5}, {11, -1, 5, -1}, {12, -1, 5, -6}, {10, -4, -6, -8}, {11, -4, -6, -2}, {12, -4, -6, 6}, {10, 0, -7, 0}, {11, 0, -7, -7},
        {12, 0, -7, -7}, {10, -4294967296L, 4294967295L, 0}, {11, -4294967296L, 4294967295L, -1}, {12, -4294967296L, 4294967295L, -1}, {10, -4294967296L, -1, -4294967296L}};
    for (long[] a : all) {
      makes((int) a[0], a[1], a[2], a[3]);
    }
  }

  /** 7: "p to q (q 0 .. 4096)". */
  private static void powersAtTheLimit() {
    makes(7, 0, 0, 1);
    makes(7, 5, 0, 1);
    makes(7, -5, 0, 1);
    makes(7, 0, 4096, 0);
    makes(7, 1, 4096, 1);
    makes(7, -1, 4096, 1);
    makes(7, -1, 4095, -1);
    makes(7, -3, 3, -27);
    makes(7, 7, 1, 7);
    for (long q : new long[] {-1, 4097, 1L << 32, (1L << 32) + 1, -(1L << 32), Long.MIN_VALUE, Long.MAX_VALUE, Integer.MIN_VALUE, Integer.MAX_VALUE}) {
      refuses(7, 1, q);
      refuses(7, 0, q);
      refuses(13, 0, q < 0 ? q - 4097 : q);
      refuses(13, 1, q < 0 && q > -5000 ? -4097 : q);
    }
    refuses(7, 2, 2048);
    refuses(7, -2, 2048);
    refuses(7, 2, 4096);
    refuses(7, Long.MAX_VALUE, 33);
    LibraryDesk x = numbers(0, 2, 2047, -2, Long.MIN_VALUE, 32);
    Check.due(() -> x.whole(0, 7, 1, 2), 1);
    Check.due(() -> x.tell(0, 1), 2048);
    Check.due(() -> x.whole(0, 7, 3, 2), -1);
    Check.due(() -> x.tell(0, 1), 2047);
    Check.due(() -> x.tell(0, 4), 2047);
    Check.due(() -> x.whole(0, 7, 4, 5), 1);
    Check.due(() -> x.tell(0, 4), 2016);
  }

  /** 13: "p 2^q, rounded down (q -4096 .. 4096)". */
  private static void shiftsAtTheLimit() {
    refuses(13, 1, 4097);
    refuses(13, 1, -4097);
    refuses(13, 1, 2048);
    refuses(13, -1, 2048);
    refuses(13, 1, 4096);
    refuses(13, 3, 2047);
    makes(13, 0, 4096, 0);
    makes(13, 0, -4096, 0);
    makes(13, 1, -4096, 0);
    makes(13, -1, -4096, -1);
    makes(13, 5, 0, 5);
    makes(13, 5, -1, 2);
    makes(13, -5, -1, -3);
    makes(13, -4, -1, -2);
    makes(13, -4, -2, -1);
    makes(13, -4, -3, -1);
    makes(13, 5, 1, 10);
    makes(13, 1, 62, 1L << 62);
    makes(13, -1, 63, Long.MIN_VALUE);
    makes(13, Long.MIN_VALUE, -63, -1);
    makes(13, Long.MIN_VALUE, -64, -1);
    makes(13, Long.MAX_VALUE, -32, Long.MAX_VALUE >> 32);
    LibraryDesk x = numbers(0, 1, 2047, -1);
    Check.due(() -> x.whole(0, 13, 1, 2), 1);
    Check.due(() -> x.tell(0, 1), 2048);
    Check.due(() -> x.whole(0, 13, 3, 2), -1);
    Check.due(() -> x.tell(0, 4), 2047);
    x.set(2, -2047);
    Check.due(() -> x.whole(0, 13, 0, 2), -1);
    is(x, 0, 10, "-1");
  }

  /** "by 0 and others out of these: ArithmeticException"; 5: "(q above 0)". */
  private static void byNought() {
    for (int op = 3; op <= 5; op++) {
      refuses(op, 7, 0);
      refuses(op, 0, 0);
    }
    refuses(5, 7, -1);
    refuses(5, -7, -2);
    makes(5, 7, 1, 0);
    makes(5, -7, 1, 0);
    makes(3, 0, 7, 0);
    makes(4, 0, 7, 0);
    LibraryDesk x = numbers(0, 5);
    Check.arithmetic(x, () -> x.whole(0, 3, 1, 0));
    Check.arithmetic(x, () -> x.whole(1, 5, 1, 0));
  }

  /** "3 p / q towards 0, 4 what that leaves (sign of p), 5 p mod q". */
  private static void quotientsWithSign() {
    long[][] all = {{7, 2, 3, 1, 1}, {-7, 2, -3, -1, 1}, {7, -2, -3, 1, 9}, {-7, -2, 3, -1, 9}, {6, 2, 3, 0, 0}, {-6, 2, -3, 0, 0}, {1, 2, 0, 1, 1}, {-1, 2, 0, -1, 1},
        {Long.MIN_VALUE, Long.MAX_VALUE, -1, -1, Long.MAX_VALUE - 1}, {1L << 62, 1L << 32, 1 << 30, 0, 0}, {(1L << 32) - 1, 1L << 32, 0, (1L << 32) - 1, (1L << 32) - 1}};
    for (long[] a : all) {
      makes(3, a[0], a[1], a[2]);
      makes(4, a[0], a[1], a[3]);
      if (a[1] > 0) {
        makes(5, a[0], a[1], a[4]);
      }
    }
    LibraryDesk x = numbers(Long.MIN_VALUE, -1);
    Check.due(() -> x.whole(0, 3, 0, 1), 1);
    is(x, 0, 10, "9223372036854775808");
  }

  /** 6: "the greatest divisor of both (0: 0)". */
  private static void greatestDivisors() {
    makes(6, 0, 0, 0);
    makes(6, 0, -5, 5);
    makes(6, 5, 0, 5);
    makes(6, -12, 18, 6);
    makes(6, 1, -1, 1);
    makes(6, 17, 13, 1);
    LibraryDesk x = wholes("0", MOST, "-" + MOST);
    Check.due(() -> x.whole(0, 6, 1, 2), 1);
    is(x, 0, 16, MOST);
  }

  /** 8: "p to q mod o (o above 0, q from 0 on)". */
  private static void powersMod() {
    LibraryDesk x = numbers(0, 3, 4, -1, 1);
    Check.arithmetic(x, () -> x.whole(0, 8, 1, 2));
    Check.arithmetic(x, () -> x.whole(3, 8, 1, 2));
    Check.arithmetic(x, () -> x.whole(4, 8, 1, 3));
    Check.due(() -> x.whole(4, 8, 1, 2), 0);
    x.set(4, 1);
    Check.due(() -> x.whole(4, 8, 1, 0), 0);
    x.set(4, 2);
    Check.due(() -> x.whole(4, 8, 1, 0), 1);
    is(x, 4, 10, "1");
    x.set(4, 7);
    Check.due(() -> x.whole(4, 8, 3, 1), 1);
    is(x, 4, 10, "6");
    x.set(4, 5);
    Check.due(() -> x.whole(4, 8, 4, 4), 0);
    LibraryDesk y = wholes("5", "3", MOST);
    Check.due(() -> y.whole(0, 8, 1, 2), 1);
    is(y, 0, 10, "2");
    y.set(0, 5);
    Check.due(() -> y.whole(0, 8, 2, 2), 0);
    LibraryDesk z = wholes(MOST, "2", MOST);
    Check.due(() -> z.whole(0, 8, 1, 2), 1);
    LibraryDesk w = wholes(MOST, "-1", "3");
    Check.due(() -> w.whole(0, 8, 1, 2), 1);
    is(w, 0, 16, "f".repeat(511) + "e");
  }

  /** 9: "the root of p, rounded down (q does not matter)". */
  private static void roots() {
    refuses(9, -1, 5);
    refuses(9, Long.MIN_VALUE, 5);
    long[][] all = {{0, 0}, {1, 1}, {2, 1}, {3, 1}, {4, 2}, {8, 2}, {9, 3}, {15, 3}, {16, 4}, {Long.MAX_VALUE, 3037000499L}, {3037000499L * 3037000499L, 3037000499L}, {3037000499L * 3037000499L - 1, 3037000498L},
        {(1L << 62) - 1, (1L << 31) - 1}, {1L << 62, 1L << 31}};
    for (long[] a : all) {
      makes(9, a[0], -5, a[1]);
    }
    LibraryDesk x = wholes("0", MOST);
    for (int q : new int[] {23, -1, Integer.MIN_VALUE, Integer.MAX_VALUE}) {
      Check.due(() -> x.whole(0, 9, 1, q), 1);
      is(x, 0, 16, "f".repeat(256));
    }
    x.make(7, 0, 0);
    Check.due(() -> x.whole(0, 9, 1, 2), 1);
  }

  /** set: "WHOLE o is v; its sign." */
  private static void setAndSigns() {
    LibraryDesk x = numbers(0);
    for (long v : new long[] {0, 1, -1, Long.MAX_VALUE, Long.MIN_VALUE, 1L << 32, -(1L << 32), 4294967295L}) {
      Check.due(() -> x.set(0, v), Long.signum(v));
      Check.due(() -> x.tell(0, 0), Long.signum(v));
      is(x, 0, 10, "" + v);
    }
  }

  /** tell 1: "bits (of 2^n - 1 and - 2^n n)". */
  private static void bitsTold() {
    LibraryDesk x = numbers(0);
    for (int n = 0; n <= 62; n++) {
      int want = n;
      x.set(0, (1L << n) - 1);
      Check.due(() -> x.tell(0, 1), want);
      x.set(0, -(1L << n));
      Check.due(() -> x.tell(0, 1), want);
      x.set(0, 1L << n);
      Check.due(() -> x.tell(0, 1), want + 1);
      x.set(0, -(1L << n) - 1);
      Check.due(() -> x.tell(0, 1), want + 1);
    }
    x.set(0, Long.MIN_VALUE);
    Check.due(() -> x.tell(0, 1), 63);
    LibraryDesk y = wholes(MOST, "-" + MOST, "-8" + "0".repeat(511), "-8" + "0".repeat(510) + "1");
    Check.due(() -> y.tell(0, 1), 2048);
    Check.due(() -> y.tell(1, 1), 2048);
    Check.due(() -> y.tell(2, 1), 2047);
    Check.due(() -> y.tell(3, 1), 2048);
  }

  /** tell 2: "the lowest 64". */
  private static void lowestTold() {
    LibraryDesk x = wholes("10000000000000000", "-10000000000000000", "10000000000000005", "-10000000000000005", "ffffffffffffffff", "-ffffffffffffffff", "8000000000000000", "-1", "0", "-100000000", MOST);
    long[] want = {0, 0, 5, -5, -1, 1, Long.MIN_VALUE, -1, 0, -(1L << 32), -1};
    for (int i = 0; i < want.length; i++) {
      int o = i;
      Check.due(() -> x.tell(o, 2), want[o]);
    }
  }

  /** tell 3: "digits without sign". */
  private static void digitsTold() {
    LibraryDesk x = numbers(0);
    long[][] all = {{0, 1}, {9, 1}, {-9, 1}, {10, 2}, {-10, 2}, {99, 2}, {100, 3}, {999999999, 9}, {1000000000, 10}, {4294967295L, 10}, {4294967296L, 10}, {9999999999L, 10}, {10000000000L, 11},
        {999999999999999999L, 18}, {1000000000000000000L, 19}, {Long.MIN_VALUE, 19}};
    for (long[] a : all) {
      x.set(0, a[0]);
      Check.due("digits of " + a[0], () -> x.tell(0, 3), a[1]);
    }
    LibraryDesk y = wholes(MOST);
    Check.due(() -> y.tell(0, 3), 617);
    for (int n = 1; n <= 600; n += 37) {
      int size = n;
      Check.tape(y, "9".repeat(n));
      y.read(0, 10);
      Check.due(() -> y.tell(0, 3), size);
      Check.tape(y, "-1" + "0".repeat(n - 1));
      y.read(0, 10);
      Check.due(() -> y.tell(0, 3), size);
    }
  }

  /** tell 4: "0s at the end (-1 for 0)". */
  private static void noughtsAtTheEnd() {
    LibraryDesk x = numbers(0);
    Check.due(() -> x.tell(0, 4), -1);
    for (int n = 0; n < 63; n++) {
      int want = n;
      x.set(0, 1L << n);
      Check.due(() -> x.tell(0, 4), want);
      x.set(0, -1L << n);
      Check.due(() -> x.tell(0, 4), want);
    }
  }

  /** tell 5: "1 if it is a prime below 2^31, else 0". */
  private static void primes() {
    LibraryDesk x = numbers(0);
    for (long p : new long[] {2, 3, 5, 7, 2147483647, 2147483629, 46337, 46349}) {
      x.set(0, p);
      Check.due("prime " + p, () -> x.tell(0, 5), 1);
    }
    for (long p : new long[] {Long.MIN_VALUE, -7, -2, -1, 0, 1, 4, 9, 25, 2147117569, 2147483645, 2147483646, 2147483648L, 2147483659L, 4294967296L + 7, Long.MAX_VALUE}) {
      x.set(0, p);
      Check.due("no prime " + p, () -> x.tell(0, 5), 0);
    }
  }

  /** order: "-1, 0, 1, of WHOLES, or DECIMALS (by value)". */
  private static void orders() {
    LibraryDesk x = wholes("-" + MOST, "-2", "-1", "0", "1", "100000000", MOST);
    for (int i = 0; i < 7; i++) {
      for (int k = 0; k < 7; k++) {
        int o = i;
        int p = k;
        Check.still(x, () -> x.order(o, p), Integer.compare(o, p));
      }
    }
    LibraryDesk y = decimals("-1.5", "-1.49", "-1", "0", "0.000", "1", "1.0", "1.01");
    int[] rank = {0, 1, 2, 3, 3, 4, 4, 5};
    for (int i = 0; i < 8; i++) {
      for (int k = 0; k < 8; k++) {
        int o = i;
        int p = k;
        Check.still(y, () -> y.order(o, p), Integer.compare(rank[o], rank[p]));
      }
    }
    LibraryDesk z = decimals("9".repeat(300), "1", "0." + "0".repeat(199) + "1");
    z.decimal(1, 4, 1, 0, -1600);
    Check.due(() -> z.decimal(0, 2, 0, 1, 0), 1);
    Check.due(() -> z.order(0, 2), 1);
    Check.due(() -> z.order(2, 0), -1);
    Check.due(() -> z.order(0, 0), 0);
    z.make(11, 0, 0);
    Check.cast(z, () -> z.order(1, 3));
    Check.cast(z, () -> z.order(3, 1));
  }

  /** read, show: "radix 2 .. 36"; of a DECIMAL "(radix 10, else IllegalArgumentException)". */
  private static void radixes() {
    LibraryDesk x = numbers(1);
    x.make(12, 0, 0);
    for (int radix : new int[] {-1, 0, 1, 37, Integer.MIN_VALUE, Integer.MAX_VALUE}) {
      for (int o = 0; o < 2; o++) {
        int at = o;
        Check.tape(x, "1");
        Check.illegal(x, () -> x.read(at, radix));
        Check.due(() -> x.count(0), 0);
        Check.due(() -> x.count(3), -1);
        Check.illegal(x, () -> x.show(at, radix));
      }
    }
    for (int r = 2; r <= 36; r++) {
      int radix = r;
      Check.tape(x, "10");
      Check.due(() -> x.read(0, radix), 2);
      Check.due(() -> x.tell(0, 2), radix);
      is(x, 0, radix, "10");
      if (radix != 10) {
        Check.tape(x, "*");
        Check.illegal(x, () -> x.read(1, radix));
        Check.illegal(x, () -> x.show(1, radix));
      }
    }
    is(x, 1, 10, "0");
  }

  /** "digits 0 .. 9 a .. z below radix": each byte, in each place. */
  private static void digitsOfEachRadix() {
    String digits = "0123456789abcdefghijklmnopqrstuvwxyz";
    for (int r : new int[] {2, 9, 10, 11, 16, 35, 36}) {
      LibraryDesk x = numbers(5);
      for (int b = 0; b < 256; b++) {
        int v = digits.indexOf(b);
        String c = "" + (char) b;
        if (v >= 0 && v < r) {
          Check.tape(x, c);
          Check.due(() -> x.read(0, r), 1);
          Check.due(() -> x.tell(0, 2), v);
        } else {
          Check.broken(x, c, () -> x.read(0, r), b == '-' ? 1 : 0);
          Check.broken(x, "1" + c, () -> x.read(0, r), 1);
          Check.broken(x, "-" + c, () -> x.read(0, r), 1);
          Check.broken(x, "-10" + c + "0", () -> x.read(0, r), 3);
        }
      }
    }
  }

  /** "[-] 1 to 600 digits .. else UnsupportedOperationException, PLACE". */
  private static void longWholes() {
    LibraryDesk x = numbers(5);
    Check.broken(x, "", () -> x.read(0, 10), 0);
    Check.broken(x, "-", () -> x.read(0, 10), 1);
    Check.broken(x, "--1", () -> x.read(0, 10), 1);
    Check.broken(x, "+1", () -> x.read(0, 10), 0);
    Check.broken(x, "1".repeat(601), () -> x.read(0, 2), 600);
    Check.broken(x, "-" + "0".repeat(601), () -> x.read(0, 2), 601);
    Check.broken(x, "z".repeat(601), () -> x.read(0, 36), 600);
    Check.broken(x, "1".repeat(600) + "*", () -> x.read(0, 2), 600);
    Check.broken(x, "1".repeat(4000), () -> x.read(0, 10), 600);
    Check.tape(x, "1".repeat(600));
    Check.due(() -> x.read(0, 2), 600);
    Check.due(() -> x.tell(0, 1), 600);
    Check.tape(x, "-" + "9".repeat(600));
    Check.due(() -> x.read(0, 10), 601);
    is(x, 0, 10, "-" + "9".repeat(600));
    Check.tape(x, "z".repeat(600));
    Check.arithmetic(x, () -> x.read(0, 36));
    Check.tape(x, "-0");
    Check.due(() -> x.read(0, 10), 2);
    Check.due(() -> x.tell(0, 0), 0);
    is(x, 0, 10, "0");
  }

  /** show: "OUT is it so, without 0s in front: size". */
  private static void wholesShown() {
    LibraryDesk x = wholes("000", "-0012", MOST, "-" + MOST);
    is(x, 0, 2, "0");
    is(x, 0, 36, "0");
    is(x, 1, 16, "-12");
    is(x, 1, 36, "-i");
    is(x, 2, 2, "1".repeat(2048));
    is(x, 3, 2, "-" + "1".repeat(2048));
    Check.due(() -> x.show(2, 10), 617);
    Check.due(() -> x.show(3, 10), 618);
    LibraryDesk y = numbers(35, -36);
    is(y, 0, 36, "z");
    is(y, 1, 36, "-10");
  }

  // DECIMALS

  private static LibraryDesk decimals(String... values) {
    LibraryDesk x = new LibraryDesk();
    for (String v : values) {
      int o = x.make(12, 0, 0);
      Check.tape(x, v);
      Check.due(v, () -> x.read(o, 10), v.length());
    }
    return x;
  }

  private static void is(LibraryDesk x, int o, String want, int scale) {
    is(x, o, 10, want);
    Check.due("SCALE of " + want, () -> x.tell(o, 6), scale);
  }

  private static void makes(int op, String p, String q, int n, String want, int scale) {
    LibraryDesk x = decimals("77", p, q);
    int sign = want.startsWith("-") ? -1 : want.replaceAll("[0.]", "").isEmpty() ? 0 : 1;
    Check.due("decimal " + op + " of " + p + " and " + q + " by " + n, () -> x.decimal(0, op, 1, 2, n), sign);
    is(x, 0, want, scale);
  }

  private static void refuses(int op, String p, String q, int n) {
    LibraryDesk x = decimals("77", p, q);
    Check.arithmetic(x, () -> x.decimal(0, op, 1, 2, n));
    is(x, 0, "77", 0);
  }

  /** "a WHOLE without limit told by digits (at most 300, else ArithmeticException)". */
  private static void digitsAtTheLimit() {
    String most = "9".repeat(300);
    refuses(0, most, "1", 0);
    refuses(1, "-" + most, "1", 0);
    makes(0, most, "0", 0, most, 0);
    makes(1, most, "1", 0, "9".repeat(299) + "8", 0);
    refuses(0, most, "0.0", 0);
    refuses(0, "1" + "0".repeat(250), "0." + "0".repeat(49) + "1", 0);
    makes(0, "1" + "0".repeat(250), "0." + "0".repeat(48) + "1", 0, "1" + "0".repeat(250) + "." + "0".repeat(48) + "1", 49);
    String tens = "1" + "0".repeat(150);
    refuses(2, tens, tens, 0);
    makes(2, tens, "1" + "0".repeat(149), 0, "1" + "0".repeat(299), 0);
    makes(2, "-" + tens, "9".repeat(149), 0, "-" + "9".repeat(149) + "0".repeat(150), 0);
    refuses(2, most, "11", 0);
    refuses(2, most, "2", 0);
    makes(2, most, "-1", 0, "-" + most, 0);
    refuses(4, most, "0", 8);
    makes(4, "9".repeat(299), "0", 8, "9".repeat(299) + ".0", 1);
    refuses(3, most, "1", 8);
    makes(3, most, "1", 0, most, 0);
    refuses(3, most, "0.1", 0);
    makes(7, "1" + "0".repeat(299), "0.3", 0, "0.1", 1);
  }

  /** "a SCALE -200 .. 200 (else ArithmeticException)". */
  private static void scalesAtTheLimit() {
    String least = "0." + "0".repeat(199) + "1";
    refuses(2, least, "0.1", 0);
    refuses(2, "0." + "0".repeat(200), "0.0", 0);
    makes(2, "0." + "0".repeat(198) + "1", "0.1", 0, least, 200);
    makes(2, least, "1", 0, least, 200);
    LibraryDesk x = decimals("77", "5", "5", "0");
    Check.due(() -> x.decimal(1, 4, 1, 0, -1600), 1);
    is(x, 1, "1" + "0".repeat(200), -200);
    Check.due(() -> x.decimal(2, 4, 2, 0, -8), 1);
    is(x, 2, "10", -1);
    Check.arithmetic(x, () -> x.decimal(0, 2, 1, 2, 0));
    Check.arithmetic(x, () -> x.decimal(0, 2, 2, 1, 0));
    Check.due(() -> x.decimal(3, 4, 3, 0, -8), 0);
    is(x, 3, "0", -1);
    Check.arithmetic(x, () -> x.decimal(0, 2, 1, 3, 0));
    Check.due(() -> x.decimal(0, 0, 1, 1, 0), 1);
    is(x, 0, "2" + "0".repeat(200), -200);
    Check.due(() -> x.decimal(0, 1, 1, 1, 0), 0);
    is(x, 0, "0", -200);
    Check.due(() -> x.decimal(0, 0, 0, 2, 0), 1);
    is(x, 0, "10", -1);
    Check.due(() -> x.decimal(0, 6, 1, 0, 0), 1);
    is(x, 0, "1" + "0".repeat(200), -200);
    LibraryDesk y = decimals("77", "10", "5");
    Check.due(() -> y.decimal(1, 4, 1, 0, -1600), 1);
    Check.tape(y, "10");
    y.read(2, 10);
    Check.due(() -> y.decimal(1, 2, 1, 2, 0), 1);
    Check.arithmetic(y, () -> y.decimal(0, 6, 1, 0, 0));
  }

  /** "at SCALE n / 8 (cut; -200 .. 200) by MODE n mod 8". */
  private static void scaleAndMode() {
    LibraryDesk x = decimals("77", "1", "3");
    for (int op = 3; op <= 4; op++) {
      int k = op;
      for (int n : new int[] {1608, 1615, -1608, -1609, Integer.MIN_VALUE, Integer.MAX_VALUE}) {
        Check.illegal(x, () -> x.decimal(0, k, 1, 2, n));
      }
      Check.illegal(x, () -> x.decimal(0, k, 1, k == 3 ? 0 : 99, 1608));
    }
    Check.due(() -> x.decimal(0, 3, 1, 2, 1600), 1);
    is(x, 0, "0." + "3".repeat(199) + "4", 200);
    Check.due(() -> x.decimal(0, 3, 1, 2, 1606), 1);
    is(x, 0, "0." + "3".repeat(200), 200);
    Check.arithmetic(x, () -> x.decimal(0, 3, 1, 2, 1607));
    Check.due(() -> x.decimal(0, 4, 1, 2, 1607), 1);
    is(x, 0, "1." + "0".repeat(200), 200);
    Check.due(() -> x.decimal(0, 3, 1, 2, -1607), 0);
    is(x, 0, "0", -200);
    Check.due(() -> x.decimal(0, 3, 1, 2, -1600), 1);
    is(x, 0, "1" + "0".repeat(200), -200);
    Check.due(() -> x.decimal(0, 4, 1, 2, -1606), 1);
    is(x, 0, "1" + "0".repeat(200), -200);
    Check.due(() -> x.decimal(0, 4, 1, 2, -1605), 0);
    Check.arithmetic(x, () -> x.decimal(0, 4, 1, 2, -1601));
    Check.due(() -> x.decimal(0, 4, 2, 99, -1), 1);
    is(x, 0, "3", 0);
    Check.due(() -> x.decimal(0, 3, 1, 2, -8), 1);
    is(x, 0, "10", -1);
    Check.due(() -> x.decimal(0, 3, 1, 2, -7), 0);
    is(x, 0, "0", 0);
    for (int n : new int[] {Integer.MIN_VALUE, Integer.MAX_VALUE, -1, 1608}) {
      Check.due(() -> x.decimal(0, 0, 1, 2, n), 1);
      Check.due(() -> x.decimal(0, 2, 1, 2, n), 1);
      Check.due(() -> x.decimal(0, 6, 1, 99, n), 1);
      Check.due(() -> x.decimal(0, 7, 1, 2, n), 1);
    }
  }

  private static final String[] VALUES = {"2.5", "-2.5", "3.5", "-3.5", "2.4", "-2.4", "2.6", "-2.6", "2.500001", "-2.499999", "0.5", "-0.5", "0.1", "-0.1", "7.0", "-7"};
  /** By MODE 0 .. 6, and by value, what is to whole. */
  private static final String[][] TO_WHOLE = {
    {"3", "-3", "4", "-4", "3", "-3", "3", "-3", "3", "-3", "1", "-1", "1", "-1", "7", "-7"},
    {"2", "-2", "3", "-3", "2", "-2", "2", "-2", "2", "-2", "0", "0", "0", "0", "7", "-7"},
    {"3", "-2", "4", "-3", "3", "-2", "3", "-2", "3", "-2", "1", "0", "1", "0", "7", "-7"},
    {"2", "-3", "3", "-4", "2", "-3", "2", "-3", "2", "-3", "0", "-1", "0", "-1", "7", "-7"},
    {"3", "-3", "4", "-4", "2", "-2", "3", "-3", "3", "-2", "1", "-1", "0", "0", "7", "-7"},
    {"2", "-2", "3", "-3", "2", "-2", "3", "-3", "3", "-2", "0", "0", "0", "0", "7", "-7"},
    {"2", "-2", "4", "-4", "2", "-2", "3", "-3", "3", "-2", "0", "0", "0", "0", "7", "-7"}};

  /** "MODES 0 away from 0, 1 towards 0, 2 up, 3 down, 4, 5, 6 to the nearest, halves away from 0, towards 0, to even". */
  private static void modes() {
    for (int mode = 0; mode < 7; mode++) {
      for (int i = 0; i < VALUES.length; i++) {
        makes(4, VALUES[i], "0", mode, TO_WHOLE[mode][i], 0);
      }
    }
    makes(4, "0.00", "0", 0, "0", 0);
    makes(4, "0", "0", 16, "0.00", 2);
  }

  /** The same of a quotient, with each sign of what divides. */
  private static void modesOfQuotients() {
    for (int mode = 0; mode < 7; mode++) {
      for (int i = 0; i < VALUES.length; i++) {
        makes(3, VALUES[i], "1", mode, TO_WHOLE[mode][i], 0);
        makes(3, VALUES[i].startsWith("-") ? VALUES[i].substring(1) : "-" + VALUES[i], "-1", mode, TO_WHOLE[mode][i], 0);
      }
    }
    makes(3, "1", "3", 8 * 3 + 4, "0.333", 3);
    makes(3, "2", "3", 8 * 3 + 5, "0.667", 3);
    makes(3, "1", "8", 8 * 2 + 6, "0.12", 2);
    makes(3, "3", "8", 8 * 2 + 6, "0.38", 2);
    makes(3, "0", "3", 8 * 2, "0.00", 2);
  }

  /** "7 ArithmeticException if it is not just so". */
  private static void notJustSo() {
    refuses(4, "2.5", "0", 7);
    refuses(4, "0.01", "0", 15);
    refuses(3, "1", "3", 15);
    refuses(5, "101", "0", 8 * 2 + 7);
    makes(4, "2.50", "0", 15, "2.5", 1);
    makes(3, "1", "4", 8 * 2 + 7, "0.25", 2);
    makes(5, "1010", "0", 8 * 3 + 7, "1010", -1);
    makes(4, "0.00", "0", 7, "0", 0);
  }

  /** 5: "p with at most n / 8 digits (1 .. 300, by MODE n mod 8 ..)". */
  private static void atMostSoManyDigits() {
    LibraryDesk x = decimals("77", "1");
    for (int n : new int[] {0, 7, -1, -8, -16, 2408, Integer.MIN_VALUE, Integer.MAX_VALUE}) {
      Check.illegal(x, () -> x.decimal(0, 5, 1, 99, n));
    }
    makes(5, "12.345", "0", 8 * 5, "12.345", 3);
    makes(5, "12.345", "0", 8 * 4, "12.35", 2);
    makes(5, "12.345", "0", 8 * 4 + 5, "12.34", 2);
    makes(5, "12.345", "0", 8 + 1, "10", -1);
    refuses(5, "12.345", "0", 15);
    makes(5, "0.00", "0", 8, "0.00", 2);
    makes(5, "9".repeat(300), "0", 2400 + 7, "9".repeat(300), 0);
    makes(5, "1", "0", 2407, "1", 0);
    makes(5, "9".repeat(300), "0", 8 * 299 + 1, "9".repeat(299) + "0", -1);
  }

  /** 5: "again if one comes more". */
  private static void onceMoreIfOneComes() {
    makes(5, "999.5", "0", 8 * 3 + 4, "1000", -1);
    makes(5, "99.9", "0", 8 + 4, "100", -2);
    makes(5, "-9.99", "0", 8 * 2, "-10", 0);
    LibraryDesk x = decimals("77", "-9.99", "9.99");
    Check.due(() -> x.decimal(0, 5, 1, 0, 8 * 2), -1);
    is(x, 0, "-10", 0);
    Check.due(() -> x.tell(0, 3), 2);
    Check.due(() -> x.decimal(0, 5, 2, 0, 8), 1);
    is(x, 0, "10", -1);
    Check.due(() -> x.tell(0, 3), 1);
    LibraryDesk y = decimals("77", "99" + "0".repeat(199), "9" + "0".repeat(200));
    Check.due(() -> y.decimal(1, 4, 1, 0, -1592), 1);
    is(y, 1, "99" + "0".repeat(199), -199);
    Check.arithmetic(y, () -> y.decimal(0, 5, 1, 0, 8));
    Check.due(() -> y.decimal(0, 5, 1, 0, 8 + 1), 1);
    is(y, 0, "9" + "0".repeat(200), -200);
  }

  /** 6: "p without 0s at its end (0: SCALE 0)". */
  private static void withoutNoughts() {
    makes(6, "0", "0", 0, "0", 0);
    makes(6, "0.000", "0", 0, "0", 0);
    makes(6, "1.500", "0", 0, "1.5", 1);
    makes(6, "-1500", "0", 0, "-1500", -2);
    makes(6, "1.000", "0", 0, "1", 0);
    makes(6, "101", "0", 0, "101", 0);
    makes(6, "1" + "0".repeat(200), "0", 0, "1" + "0".repeat(200), -200);
    refuses(6, "1" + "0".repeat(201), "0", 0);
    refuses(6, "-1" + "0".repeat(299), "0", 0);
    makes(6, "1" + "0".repeat(99) + "." + "0".repeat(200), "0", 0, "1" + "0".repeat(99), -99);
  }

  /** 7: "what p - q times the quotient cut to whole leaves (the greater SCALE)". */
  private static void restsOfDecimals() {
    makes(7, "7", "2", 0, "1", 0);
    makes(7, "-7", "2", 0, "-1", 0);
    makes(7, "7", "-2", 0, "1", 0);
    makes(7, "-7", "-2", 0, "-1", 0);
    makes(7, "7.5", "2", 0, "1.5", 1);
    makes(7, "7", "2.50", 0, "2.00", 2);
    makes(7, "6", "2.0", 0, "0.0", 1);
    makes(7, "1", "3", 0, "1", 0);
    makes(7, "0", "3.00", 0, "0.00", 2);
  }

  /** 3, 7: by 0, of any SCALE. */
  private static void decimalsByNought() {
    for (String zero : new String[] {"0", "0.00", "-0"}) {
      refuses(3, "1", zero, 0);
      refuses(3, "0", zero, 8);
      refuses(7, "1", zero, 0);
      refuses(7, "0", zero, 0);
    }
    LibraryDesk x = decimals("1", "0");
    Check.illegal(x, () -> x.decimal(0, 3, 0, 1, 1608));
  }

  /** "[-] digits [. digits], at most 300 digits in all, 200 behind: SCALE as many as behind". */
  private static void decimalsRead() {
    LibraryDesk x = decimals("77");
    Object[][] bad = {{"", 0}, {"-", 1}, {".", 0}, {"-.", 1}, {".5", 0}, {"5.", 2}, {"-5.", 3}, {"5..5", 2}, {"5.5.", 3}, {"5.5.5", 3}, {"--5", 1}, {"+5", 0}, {"5-", 1}, {"5e1", 1}, {"5a", 1}, {" 5", 0}, {"5 ", 1},
        {"5.a", 2}, {"/", 0}, {":", 0}, {"1".repeat(301), 300}, {"-" + "1".repeat(301), 301}, {"1." + "1".repeat(201), 202}, {"1".repeat(100) + "." + "1".repeat(201), 301},
        {"1".repeat(101) + "." + "1".repeat(200), 301}, {"1".repeat(299) + ".11", 301}, {"1".repeat(300) + ".", 301}, {"0".repeat(301), 300}, {"0." + "0".repeat(201), 202}, {"1".repeat(300) + "x", 300}};
    for (Object[] b : bad) {
      Check.broken(x, (String) b[0], () -> x.read(0, 10), (Integer) b[1]);
    }
    is(x, 0, "77", 0);
    String[] good = {"1".repeat(300), "-" + "1".repeat(300), "1".repeat(100) + "." + "1".repeat(200), "1".repeat(299) + ".1", "0." + "0".repeat(200), "0.0", "-0.5"};
    int[] scales = {0, 0, 200, 1, 200, 1, 1};
    for (int i = 0; i < good.length; i++) {
      LibraryDesk y = decimals(good[i]);
      is(y, 0, good[i], scales[i]);
      Check.due(() -> y.count(3), -1);
    }
    LibraryDesk z = decimals("007.50", "-0", "-0.00");
    is(z, 0, "7.50", 2);
    Check.due(() -> z.tell(0, 3), 3);
    is(z, 1, "0", 0);
    is(z, 2, "0.00", 2);
    Check.due(() -> z.tell(2, 0), 0);
  }

  /** show: "with SCALE above 0 so many digits behind the . and one at least ahead, else the whole number that it is". */
  private static void decimalsShown() {
    LibraryDesk x = new LibraryDesk();
    x.make(12, 0, 0);
    is(x, 0, "0", 0);
    for (String s : new String[] {"0.1", "-0.1", "0.01", "1.0", "10.00", "-12.345", "0.000"}) {
      LibraryDesk y = decimals(s);
      Check.due(() -> y.show(0, 10), s.length());
      Check.same("shown", Check.out(y), s);
    }
    LibraryDesk y = decimals("5", "0", "-5");
    y.decimal(0, 4, 0, 0, -8);
    y.decimal(1, 4, 1, 0, -1600);
    y.decimal(2, 4, 2, 0, -1600);
    is(y, 0, "10", -1);
    is(y, 1, "0", -200);
    is(y, 2, "-1" + "0".repeat(200), -200);
  }

  /** "tell of it: 0, 3 (of 0 1) as of WHOLES, 6 SCALE alone". */
  private static void decimalsTold() {
    LibraryDesk x = decimals("0.00", "-10.5", "9".repeat(300));
    for (int what : new int[] {-1, 1, 2, 4, 5, 7}) {
      Check.illegal(x, () -> x.tell(0, what));
    }
    long[][] all = {{0, 0, 0}, {0, 3, 1}, {0, 6, 2}, {1, 0, -1}, {1, 3, 3}, {1, 6, 1}, {2, 0, 1}, {2, 3, 300}, {2, 6, 0}};
    for (long[] a : all) {
      Check.still(x, () -> x.tell((int) a[0], (int) a[1]), a[2]);
    }
    x.make(11, 0, 0);
    Check.illegal(x, () -> x.tell(3, 6));
    Check.due(() -> x.tell(3, 3), 1);
  }

  /** What is carried goes through all bits, up to the highest and down to the lowest. */
  private static void carriedThroughAll() {
    String zeros = "0".repeat(511);
    LibraryDesk x = wholes("0", "1" + zeros, "1", "7" + "f".repeat(511), "-1" + zeros, "8" + zeros);
    Check.due(() -> x.whole(0, 1, 1, 2), 1);
    is(x, 0, 16, "f".repeat(511));
    Check.due(() -> x.whole(0, 0, 0, 2), 1);
    is(x, 0, 16, "1" + zeros);
    Check.due(() -> x.whole(0, 0, 4, 2), -1);
    is(x, 0, 16, "-" + "f".repeat(511));
    Check.due(() -> x.whole(0, 1, 2, 1), -1);
    is(x, 0, 16, "-" + "f".repeat(511));
    Check.due(() -> x.whole(0, 0, 3, 2), 1);
    is(x, 0, 16, "8" + zeros);
    Check.due(() -> x.whole(0, 1, 5, 3), 1);
    is(x, 0, 16, "1");
    Check.due(() -> x.whole(0, 0, 4, 1), 0);
    is(x, 0, 16, "0");
    LibraryDesk y = wholes("0", "ffffffffffffffffffffffffffffffff", "fffffffffffffffffffffffff");
    Check.due(() -> y.whole(0, 2, 1, 1), 1);
    is(y, 0, 16, "f".repeat(31) + "e" + "0".repeat(31) + "1");
    Check.due(() -> y.whole(0, 3, 0, 1), 1);
    is(y, 0, 16, "f".repeat(32));
    Check.due(() -> y.whole(0, 2, 1, 2), 1);
    Check.due(() -> y.whole(0, 3, 0, 2), 1);
    is(y, 0, 16, "f".repeat(32));
    Check.due(() -> y.whole(0, 2, 1, 2), 1);
    Check.due(() -> y.whole(0, 4, 0, 1), 0);
  }

  /** 8: each p, q and o that is small, o being p or q as well. */
  private static void powersModSmall() {
    LibraryDesk x = numbers(0, 0, 0);
    for (int p = -9; p <= 9; p++) {
      for (int q = 0; q <= 9; q++) {
        for (int mod = 1; mod <= 9; mod++) {
          long want = 1 % mod;
          for (int i = 0; i < q; i++) {
            want = Math.floorMod(want * p, mod);
          }
          x.set(0, mod);
          x.set(1, p);
          x.set(2, q);
          Check.due(p + " to " + q + " mod " + mod, () -> x.whole(0, 8, 1, 2), Long.signum(want));
          Check.due(p + " to " + q + " mod " + mod, () -> x.tell(0, 2), want);
        }
      }
    }
    for (int v = 1; v <= 9; v++) {
      x.set(0, v);
      long want = 1;
      for (int i = 0; i < v; i++) {
        want = want * v % v;
      }
      Check.due(() -> x.whole(0, 8, 0, 0), Long.signum(want));
    }
    String mod = "8" + "0".repeat(510) + "1";
    LibraryDesk y = wholes(mod, "-" + MOST, MOST);
    Check.due(() -> y.whole(0, 8, 1, 2), 1);
    java.math.BigInteger most = new java.math.BigInteger(MOST, 16);
    is(y, 0, 16, most.negate().modPow(most, new java.math.BigInteger(mod, 16)).toString(16));
    LibraryDesk z = numbers((1L << 61) - 1, 2, 61);
    Check.due(() -> z.whole(0, 8, 1, 2), 1);
    is(z, 0, 10, "1");
    z.set(0, 1000000007);
    z.set(1, -3);
    z.set(2, 1000000007);
    Check.due(() -> z.whole(0, 8, 1, 2), 1);
    is(z, 0, 10, "1000000004");
  }

  /** 3, 4: p is q times a number, and one more or less: the quotient just comes, or does not. */
  private static void quotientsAtEachEdge() {
    String[] divisors = {"1", "2", "7fffffff", "80000000", "ffffffff", "100000000", "100000001", "7fffffffffffffff", "8000000000000000", "80000000ffffffff", "ffffffff00000000", "ffffffffffffffff",
        "100000000ffffffff", "800000000000000000000000", "ffffffff0000000000000001", "8000000000000000ffffffff", "fffffffffffffffffffffffffffffffe"};
    for (String d : divisors) {
      for (String f : divisors) {
        LibraryDesk x = wholes("0", d, f, "1", "0");
        x.whole(0, 2, 1, 2);
        Check.due(() -> x.whole(4, 3, 0, 1), 1);
        is(x, 4, 16, f);
        Check.due(() -> x.whole(4, 4, 0, 1), 0);
        x.whole(0, 0, 0, 1);
        x.whole(0, 1, 0, 3);
        Check.due(() -> x.whole(4, 3, 0, 1), 1);
        is(x, 4, 16, f);
        x.whole(4, 4, 0, 1);
        x.whole(4, 0, 4, 3);
        is(x, 4, 16, d);
        x.whole(0, 0, 0, 3);
        x.whole(4, 3, 0, 1);
        x.whole(4, 1, 4, 3);
        is(x, 4, 16, f);
      }
    }
  }

  /** show: the first and the last digit of each radix, and one more than that. */
  private static void digitsShown() {
    String digits = "0123456789abcdefghijklmnopqrstuvwxyz";
    for (int radix = 2; radix <= 36; radix++) {
      LibraryDesk x = numbers(0, radix - 1, radix, -radix, radix * radix - 1L);
      String last = "" + digits.charAt(radix - 1);
      is(x, 0, radix, "0");
      is(x, 1, radix, last);
      is(x, 2, radix, "10");
      is(x, 3, radix, "-10");
      is(x, 4, radix, last + last);
      for (int v = 0; v < radix; v++) {
        x.set(0, v);
        is(x, 0, radix, "" + digits.charAt(v));
      }
    }
  }
}
