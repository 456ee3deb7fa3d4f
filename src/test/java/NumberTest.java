import java.math.BigDecimal;
import java.math.BigInteger;
import java.math.RoundingMode;
import java.util.Random;

/** Promises 11 (set) to 14, beside BigInteger and BigDecimal. */
public final class NumberTest {
  private static final BigInteger LIMIT = BigInteger.ONE.shiftLeft(2048);

  public static void main(String[] args) {
    wholes();
    wholeEdges();
    decimals();
    decimalEdges();
    readings();
    Check.end("NumberTest");
  }

  private static BigInteger draw(Random r) {
    int bits = new int[] {3, 8, 32, 33, 64, 70, 200, 1000, 2048}[r.nextInt(9)];
    BigInteger v = new BigInteger(bits, r);
    switch (r.nextInt(6)) {
      case 0:
        v = BigInteger.ONE.shiftLeft(bits - 1).subtract(BigInteger.valueOf(r.nextInt(3)));
        break;
      case 1:
        v = v.shiftRight(bits / 2).shiftLeft(bits / 2);
        break;
      case 2:
        v = BigInteger.valueOf(r.nextInt(5));
        break;
      default:
        break;
    }
    return r.nextInt(3) == 0 ? v.negate() : v;
  }

  private static void put(LibraryDesk x, int o, BigInteger v) {
    Check.tape(x, v.toString(36));
    Check.due(() -> x.read(o, 36), v.toString(36).length());
  }

  private static BigInteger get(LibraryDesk x, int o) {
    x.show(o, 16);
    return new BigInteger(Check.out(x), 16);
  }

  private static BigInteger made(int op, BigInteger o, BigInteger p, BigInteger q) {
    BigInteger most = BigInteger.valueOf(4096);
    switch (op) {
      case 0:
        return p.add(q);
      case 1:
        return p.subtract(q);
      case 2:
        return p.multiply(q);
      case 3:
        return p.divide(q);
      case 4:
        return p.remainder(q);
      case 5:
        return p.mod(q);
      case 6:
        return p.gcd(q);
      case 7:
        if (q.signum() < 0 || q.compareTo(most) > 0) {
          return null;
        }
        return p.bitLength() > 2 && q.intValue() > 2048 ? null : p.pow(q.intValue());
      case 8:
        return o.signum() <= 0 || q.signum() < 0 ? null : p.modPow(q, o);
      case 9:
        return p.signum() < 0 ? null : p.sqrt();
      case 10:
        return p.and(q);
      case 11:
        return p.or(q);
      case 12:
        return p.xor(q);
      default:
        return q.abs().compareTo(most) > 0 ? null : p.shiftLeft(q.intValue());
    }
  }

  private static void wholes() {
    Random r = Check.random(2);
    for (int i = 0; i < 12000; i++) {
      LibraryDesk x = new LibraryDesk();
      BigInteger[] v = {draw(r), draw(r), draw(r)};
      int op = i % 14;
      if (op == 8 && v[1].bitLength() > 300 && i % 5 != 0) {
        v[2] = BigInteger.valueOf(r.nextInt(1000));
      }
      if ((op == 7 || op == 13) && r.nextInt(4) > 0) {
        v[2] = BigInteger.valueOf(r.nextInt(op == 7 ? 60 : 4400) - (op == 7 ? 2 : 2200));
      }
      for (int k = 0; k < 3; k++) {
        x.make(11, 0, 0);
        put(x, k, v[k]);
      }
      int o = r.nextInt(3);
      int p = r.nextInt(3);
      int q = r.nextInt(3);
      BigInteger want;
      try {
        want = made(op, v[o], v[p], v[q]);
      } catch (ArithmeticException e) {
        want = null;
      }
      if (want != null && want.abs().compareTo(LIMIT) >= 0) {
        want = null;
      }
      String call = "whole " + op + " of " + v[p] + " and " + v[q] + " mod " + v[o];
      Check.same(call, Check.of(() -> x.whole(o, op, p, q)), want == null ? "throws.ArithmeticException" : "" + want.signum());
      v[o] = want == null ? v[o] : want;
      for (int k = 0; k < 3; k++) {
        Check.same(call + ", then " + k, get(x, k), v[k]);
      }
      BigInteger n = v[o];
      Check.due(() -> x.tell(o, 0), n.signum());
      Check.due(() -> x.tell(o, 1), n.bitLength());
      Check.due(() -> x.tell(o, 2), n.longValue());
      Check.due(() -> x.tell(o, 3), n.abs().toString().length());
      Check.due(() -> x.tell(o, 4), n.getLowestSetBit());
      Check.due(() -> x.order(o, p), n.compareTo(v[p]));
      int radix = 2 + r.nextInt(35);
      Check.due(() -> x.show(o, radix), n.toString(radix).length());
      Check.same("show", Check.out(x), n.toString(radix));
    }
  }

  private static void wholeEdges() {
    LibraryDesk x = new LibraryDesk();
    x.make(11, 0, 0);
    x.make(11, 0, 0);
    x.make(11, 0, 0);
    x.make(12, 0, 0);
    x.make(7, 0, 0);
    Check.due(() -> x.tell(0, 4), -1);
    Check.due(() -> x.tell(0, 3), 1);
    Check.due(() -> x.set(0, Long.MIN_VALUE), -1);
    Check.due(() -> x.tell(0, 1), 63);
    Check.due(() -> x.tell(0, 2), Long.MIN_VALUE);
    Check.due(() -> x.tell(0, 4), 63);
    Check.due(() -> x.set(0, 0), 0);
    Check.due(() -> x.set(0, Long.MAX_VALUE), 1);
    Check.cast(() -> x.set(3, 0));
    Check.none(() -> x.set(9, 0));
    long[] primes = {2, 3, 5, 46337, 2147483647L, 1000000007, 2147483629L};
    for (long p : primes) {
      x.set(0, p);
      Check.due("prime " + p, () -> x.tell(0, 5), 1);
    }
    for (long p : new long[] {-3, 0, 1, 4, 9, 2147483648L, 4294967291L, 46337L * 46337, 2147483646L, 3L + (1L << 40), Long.MAX_VALUE}) {
      x.set(0, p);
      Check.due("no prime " + p, () -> x.tell(0, 5), 0);
    }
    x.set(0, 5);
    x.set(1, 0);
    for (int op = 3; op <= 5; op++) {
      int k = op;
      Check.arithmetic(() -> x.whole(2, k, 0, 1));
    }
    x.set(1, -3);
    Check.arithmetic(() -> x.whole(2, 5, 0, 1));
    Check.arithmetic(() -> x.whole(2, 7, 0, 1));
    Check.arithmetic(() -> x.whole(0, 8, 0, 1));
    Check.arithmetic(() -> x.whole(2, 9, 1, 99));
    x.set(1, 4097);
    Check.arithmetic(() -> x.whole(2, 7, 0, 1));
    Check.arithmetic(() -> x.whole(2, 13, 0, 1));
    x.set(1, -4097);
    Check.arithmetic(() -> x.whole(2, 13, 0, 1));
    x.set(1, -4096);
    Check.due(() -> x.whole(2, 13, 0, 1), 0);
    x.set(0, -1);
    Check.due(() -> x.whole(2, 13, 0, 1), -1);
    x.set(1, 4096);
    Check.due(() -> x.whole(2, 7, 0, 1), 1);
    x.set(0, 0);
    Check.due(() -> x.whole(2, 13, 0, 1), 0);
    Check.due(() -> x.whole(2, 7, 0, 1), 0);
    Check.due(() -> x.whole(2, 7, 0, 0), 1);
    x.set(0, 2);
    x.set(1, 2047);
    Check.due(() -> x.whole(2, 7, 0, 1), 1);
    Check.arithmetic(() -> x.whole(2, 0, 2, 2));
    Check.due(() -> x.tell(2, 1), 2048);
    Check.due(() -> x.whole(0, 1, 1, 2), -1);
    Check.due(() -> x.whole(2, 1, 0, 2), -1);
    x.set(0, 1);
    Check.due(() -> x.whole(2, 9, 0, 77), 1);
    Check.due(() -> x.whole(2, 6, 1, 1), 1);
    Check.none(() -> x.whole(2, 0, 0, 77));
    Check.none(() -> x.whole(4, 0, 77, 0));
    Check.cast(() -> x.whole(4, 99, 0, 0));
    Check.cast(() -> x.whole(0, 0, 3, 0));
    Check.cast(() -> x.whole(0, 0, 0, 3));
    Check.illegal(() -> x.whole(0, 14, 0, 0));
    Check.illegal(() -> x.whole(0, -1, 0, 0));
    Check.cast(() -> x.order(0, 3));
    Check.cast(() -> x.order(3, 0));
    Check.cast(() -> x.order(4, 4));
    Check.none(() -> x.order(4, 44));
    Check.cast(() -> x.tell(4, 99));
    Check.illegal(() -> x.tell(0, 6));
    Check.illegal(() -> x.tell(0, -1));
    Check.illegal(() -> x.tell(3, 1));
    Check.illegal(() -> x.tell(3, 5));
    Check.illegal(() -> x.tell(3, 7));
    Check.none(() -> x.tell(9, 99));
    Check.none(() -> x.show(9, 99));
    Check.cast(() -> x.show(4, 99));
    Check.illegal(() -> x.show(0, 1));
    Check.illegal(() -> x.show(0, 37));
    Check.illegal(() -> x.show(3, 2));
  }

  private static BigDecimal drawDecimal(Random r) {
    BigInteger v = new BigInteger(new int[] {4, 10, 40, 300, 990}[r.nextInt(5)], r);
    if (r.nextInt(4) == 0) {
      v = v.divide(BigInteger.TEN).multiply(BigInteger.TEN.pow(r.nextInt(20))).add(BigInteger.valueOf(5));
    }
    if (v.toString().length() > 300) {
      v = BigInteger.TEN;
    }
    int scale = r.nextInt(r.nextBoolean() ? 5 : 180) * (r.nextInt(4) == 0 ? -1 : 1);
    return new BigDecimal(r.nextInt(3) == 0 ? v.negate() : v, scale);
  }

  /** A DECIMAL of any SCALE, by what read and op 4 and 2 give. */
  private static void put(LibraryDesk x, int o, BigDecimal v) {
    BigInteger u = v.unscaledValue();
    Check.tape(x, u.toString());
    x.read(o, 10);
    int one = x.make(12, 0, 0);
    if (v.scale() >= 0) {
      Check.tape(x, v.scale() == 0 ? "1" : "0." + "0".repeat(v.scale() - 1) + "1");
      x.read(one, 10);
    } else {
      Check.tape(x, "1" + "0".repeat(-v.scale()));
      x.read(one, 10);
      x.decimal(one, 4, one, 0, v.scale() * 8 + 7 - (v.scale() * 8 + 7 < 0 && (v.scale() * 8 + 7) / 8 != v.scale() ? 7 : 0));
    }
    x.decimal(o, 2, o, one, 0);
    x.drop(one);
    Check.same("put", get10(x, o), v);
  }

  private static BigDecimal get10(LibraryDesk x, int o) {
    x.show(o, 10);
    BigDecimal v = new BigDecimal(Check.out(x));
    int scale = (int) x.tell(o, 6);
    Check.same("shown", Check.out(x), v.setScale(Math.max(scale, 0)).toPlainString());
    return v.setScale(scale);
  }

  private static BigDecimal trim(BigDecimal v) {
    return v.signum() == 0 ? BigDecimal.ZERO : v.stripTrailingZeros();
  }

  private static BigDecimal made(int op, BigDecimal p, BigDecimal q, int n) {
    RoundingMode mode = RoundingMode.values()[Math.floorMod(n, 8)];
    int scale = n / 8;
    switch (op) {
      case 0:
        return p.add(q);
      case 1:
        return p.subtract(q);
      case 2:
        return p.multiply(q);
      case 3:
        return p.divide(q, scale, mode);
      case 4:
        return p.setScale(scale, mode);
      case 5:
        return p.round(new java.math.MathContext(scale, mode));
      case 6:
        return trim(p);
      default:
        BigDecimal rest = p.subtract(p.divideToIntegralValue(q).multiply(q));
        return rest.setScale(Math.max(p.scale(), q.scale()));
    }
  }

  private static void decimals() {
    Random r = Check.random(4);
    for (int i = 0; i < 12000; i++) {
      LibraryDesk x = new LibraryDesk();
      BigDecimal[] v = {drawDecimal(r), drawDecimal(r), drawDecimal(r)};
      if (r.nextInt(5) == 0) {
        v[1] = new BigDecimal(BigInteger.valueOf(r.nextInt(3)), r.nextInt(3));
      }
      for (int k = 0; k < 3; k++) {
        x.make(12, 0, 0);
        put(x, k, v[k]);
      }
      int op = i % 8;
      int o = r.nextInt(3);
      int p = r.nextInt(3);
      int q = r.nextInt(3);
      int told = op == 5 ? 1 + r.nextInt(r.nextBoolean() ? 8 : 300) : r.nextInt(r.nextBoolean() ? 10 : 401) - (r.nextBoolean() ? 3 : 200);
      told = op == 5 ? told : Math.max(-199, Math.min(200, told));
      int n = told * 8 + (told < 0 ? -r.nextInt(8) : r.nextInt(8));
      BigDecimal want;
      try {
        want = made(op, v[p], v[q], n);
      } catch (ArithmeticException e) {
        want = null;
      }
      if (want != null && (want.unscaledValue().abs().toString().length() > 300 || Math.abs(want.scale()) > 200)) {
        want = null;
      }
      String call = "decimal " + op + " of " + v[p] + " and " + v[q] + " by " + n;
      Check.same(call, Check.of(() -> x.decimal(o, op, p, q, n)), want == null ? "throws.ArithmeticException" : "" + want.signum());
      v[o] = want == null ? v[o] : want;
      for (int k = 0; k < 3; k++) {
        Check.same(call + ", then " + k, get10(x, k), v[k]);
      }
      BigDecimal d = v[o];
      Check.due(() -> x.tell(o, 0), d.signum());
      Check.due(() -> x.tell(o, 3), d.unscaledValue().abs().toString().length());
      Check.due(call, () -> x.order(o, q), d.compareTo(v[q]));
    }
  }

  private static void decimal(LibraryDesk x, int o, String s) {
    Check.tape(x, s);
    Check.due(() -> x.read(o, 10), s.length());
  }

  private static void decimalEdges() {
    LibraryDesk x = new LibraryDesk();
    for (int i = 0; i < 3; i++) {
      x.make(12, 0, 0);
    }
    x.make(11, 0, 0);
    Check.due(() -> x.show(0, 10), 1);
    decimal(x, 0, "1");
    Check.arithmetic(() -> x.decimal(2, 3, 0, 1, 0));
    Check.arithmetic(() -> x.decimal(2, 7, 0, 1, 0));
    decimal(x, 1, "3");
    Check.arithmetic(() -> x.decimal(2, 3, 0, 1, 8 * 5 + 7));
    Check.due(() -> x.decimal(2, 3, 0, 1, 8 * 200), 1);
    Check.due(() -> x.tell(2, 3), 200);
    Check.illegal(() -> x.decimal(2, 3, 0, 1, 8 * 201));
    Check.illegal(() -> x.decimal(2, 4, 0, 99, -8 * 201));
    Check.due(() -> x.decimal(2, 4, 0, 99, -8 * 200 - 7), 0);
    Check.due(() -> x.tell(2, 6), -200);
    Check.arithmetic(() -> x.decimal(2, 4, 0, 99, -8 * 200 - 1));
    Check.illegal(() -> x.decimal(2, 5, 0, 99, 7));
    Check.illegal(() -> x.decimal(2, 5, 0, 99, -8));
    Check.illegal(() -> x.decimal(2, 5, 0, 99, 8 * 301));
    Check.due(() -> x.decimal(2, 5, 0, 99, 8 * 300 + 7), 1);
    Check.illegal(() -> x.decimal(2, 8, 0, 1, 0));
    Check.illegal(() -> x.decimal(2, -1, 0, 1, 0));
    Check.none(() -> x.decimal(2, 0, 0, 99, 0));
    Check.none(() -> x.decimal(3, 0, 0, 99, 0));
    Check.cast(() -> x.decimal(3, 99, 0, 0, 0));
    Check.cast(() -> x.decimal(0, 0, 3, 0, 0));
    Check.cast(() -> x.decimal(0, 0, 0, 3, 0));
    decimal(x, 0, "999.5");
    Check.due(() -> x.decimal(2, 5, 0, 99, 8 * 3 + 4), 1);
    Check.due(() -> x.tell(2, 6), -1);
    Check.due(() -> x.tell(2, 3), 3);
    decimal(x, 0, "9".repeat(300));
    decimal(x, 1, "1");
    Check.arithmetic(() -> x.decimal(2, 0, 0, 1, 0));
    Check.arithmetic(() -> x.decimal(2, 4, 0, 1, 8));
    Check.due(() -> x.decimal(2, 4, 0, 1, -8), 1);
    Check.due(() -> x.decimal(2, 1, 0, 1, 0), 1);
    decimal(x, 0, "0." + "0".repeat(200));
    Check.arithmetic(() -> x.decimal(2, 2, 0, 0, 0));
    Check.due(() -> x.show(0, 10), 202);
    Check.due(() -> x.decimal(2, 6, 0, 0, 0), 0);
    Check.due(() -> x.tell(2, 6), 0);
    decimal(x, 0, "5");
    Check.due(() -> x.decimal(0, 4, 0, 0, -8 * 200 - 8 + 8), 1);
    Check.due(() -> x.tell(0, 3), 1);
    Check.due(() -> x.show(0, 10), 201);
    decimal(x, 1, "10");
    Check.due(() -> x.decimal(2, 2, 0, 1, 0), 1);
    Check.arithmetic(() -> x.decimal(2, 6, 2, 1, 0));
  }

  private static void readings() {
    LibraryDesk x = new LibraryDesk();
    x.make(11, 0, 0);
    x.make(12, 0, 0);
    x.make(7, 0, 0);
    Object[][] bad = {{"", 10, 0}, {"-", 10, 1}, {"--1", 10, 1}, {"+1", 10, 0}, {"12a", 10, 2}, {"12", 2, 1}, {"A", 16, 0}, {"g", 16, 0}, {"1 ", 10, 1},
        {" 1", 10, 0}, {"1.0", 10, 1}, {"1".repeat(601), 10, 600}, {"-" + "0".repeat(601), 2, 601}, {"1-", 10, 1}, {"/", 36, 0}, {":", 36, 0},
        {"`", 36, 0}, {"{", 36, 0}};
    for (Object[] b : bad) {
      Check.broken(x, (String) b[0], () -> x.read(0, (Integer) b[1]), (Integer) b[2]);
    }
    Object[][] no = {{"", 0}, {"-", 1}, {".5", 0}, {"-.5", 1}, {"5.", 2}, {"5.x", 2}, {"5..1", 2}, {"5.1.2", 3}, {"1e5", 1}, {"1".repeat(301), 300},
        {"1." + "1".repeat(201), 202}, {"-" + "1".repeat(150) + "." + "1".repeat(151), 302}, {"1".repeat(300) + ".1", 301}, {"12,5", 2}, {"a", 0}};
    for (Object[] b : no) {
      Check.broken(x, (String) b[0], () -> x.read(1, 10), (Integer) b[1]);
    }
    Check.tape(x, "-" + "0".repeat(600));
    Check.due(() -> x.read(0, 2), 601);
    Check.due(() -> x.tell(0, 0), 0);
    Check.due(() -> x.count(3), -1);
    Check.tape(x, "z".repeat(600));
    Check.arithmetic(() -> x.read(0, 36));
    Check.due(() -> x.count(3), -1);
    Check.tape(x, "f".repeat(512));
    Check.due(() -> x.read(0, 16), 512);
    Check.tape(x, "1" + "0".repeat(512));
    Check.arithmetic(() -> x.read(0, 16));
    Check.due(() -> x.tell(0, 1), 2048);
    Check.due(() -> x.show(0, 2), 2048);
    Check.tape(x, "-0.00");
    Check.due(() -> x.read(1, 10), 5);
    Check.due(() -> x.show(1, 10), 4);
    Check.same("0 at SCALE 2", Check.out(x), "0.00");
    Check.tape(x, "007.50");
    Check.due(() -> x.read(1, 10), 6);
    Check.due(() -> x.tell(1, 3), 3);
    Check.due(() -> x.show(1, 10), 4);
    Check.tape(x, "1." + "1".repeat(200));
    Check.due(() -> x.read(1, 10), 202);
    Check.tape(x, "1");
    Check.illegal(() -> x.read(1, 9));
    Check.due(() -> x.count(0), 0);
    Check.tape(x, "1");
    Check.illegal(() -> x.read(0, 37));
    Check.illegal(() -> x.read(0, 1));
    Check.cast(() -> x.read(2, 99));
    Check.none(() -> x.read(9, 99));
  }
}
