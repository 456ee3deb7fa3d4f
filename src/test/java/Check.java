/** What all tests use: calls with the answer or the exception that is due, THE TAPE and OUT as texts. */
final class Check {
  static final long NONE = 1L << 40;
  static int wrong = 0;
  private static int calls = 0;

  /** Seeds that are near one another would begin with the same numbers otherwise. */
  static java.util.Random random(long seed) {
    return new java.util.Random((seed + 1) * 0x9E3779B97F4A7C15L);
  }

  interface Call {
    long go();
  }

  /** The answer of a call, or throws. and the name of what it throws. */
  static String of(Call call) {
    calls++;
    try {
      return "" + call.go();
    } catch (RuntimeException e) {
      if (e.getMessage() != null) {
        fail("the machine threw " + e);
      }
      return "throws." + e.getClass().getSimpleName();
    }
  }

  static void fail(String what) {
    wrong++;
    if (wrong < 20) {
      System.out.println(what);
      StackTraceElement[] trace = new Throwable().getStackTrace();
      for (StackTraceElement e : trace) {
        if (!e.getClassName().equals("Check")) {
          System.out.println("  at " + e);
          break;
        }
      }
    }
  }

  static void same(String what, Object got, Object want) {
    if (!String.valueOf(got).equals(String.valueOf(want))) {
      fail(what + " answered " + got + ", due is " + want);
    }
  }

  static void due(Call call, long want) {
    same("a call", of(call), want);
  }

  static void due(String what, Call call, long want) {
    same(what, of(call), want);
  }

  static void none(Call call) {
    same("a call", of(call), "throws.NoSuchElementException");
  }

  static void cast(Call call) {
    same("a call", of(call), "throws.ClassCastException");
  }

  static void illegal(Call call) {
    same("a call", of(call), "throws.IllegalArgumentException");
  }

  static void state(Call call) {
    same("a call", of(call), "throws.IllegalStateException");
  }

  static void unsupported(Call call) {
    same("a call", of(call), "throws.UnsupportedOperationException");
  }

  static void beyond(Call call) {
    same("a call", of(call), "throws.IndexOutOfBoundsException");
  }

  static void arithmetic(Call call) {
    same("a call", of(call), "throws.ArithmeticException");
  }

  static void negative(Call call) {
    same("a call", of(call), "throws.NegativeArraySizeException");
  }

  /** THE TAPE, which is empty, gets these bytes. */
  static void tape(LibraryDesk x, String s) {
    x.end(0);
    int[] v = new int[5];
    for (int i = 0; i < s.length(); i += 20) {
      for (int k = 0; k < 5; k++) {
        v[k] = 0;
        for (int b = 0; b < 4; b++) {
          int at = i + 4 * k + b;
          v[k] = v[k] << 8 | (at < s.length() ? s.charAt(at) & 255 : 0);
        }
      }
      x.feed(v[0], v[1], v[2], v[3], v[4]);
    }
    x.end(s.length());
  }

  static String out(LibraryDesk x) {
    StringBuilder b = new StringBuilder();
    int n = (int) x.count(1);
    for (int i = 0; i < n; i += 8) {
      long w = x.word(i);
      for (int k = 0; k < 8 && i + k < n; k++) {
        b.append((char) (w >>> 56 - 8 * k & 255));
      }
    }
    return b.toString();
  }

  /** A TEXT of these bytes. */
  static int text(LibraryDesk x, String s) {
    int o = x.make(7, 0, 0);
    tape(x, s);
    x.text(o, 0, 0, 0);
    return o;
  }

  static String textOf(LibraryDesk x, int o) {
    x.text(o, 16, 0, 0);
    return out(x);
  }

  /** The call breaks at a place. */
  static void broken(LibraryDesk x, String tape, Call call, long place) {
    tape(x, tape);
    same("<" + tape + ">", of(call), "throws.UnsupportedOperationException");
    same("PLACE of <" + tape + ">", x.count(3), place);
    same("THE TAPE", x.count(0), 0);
  }

  interface Reader {
    long read(LibraryDesk x);
  }

  /**
   * The tape is none that is broken, but each one that lacks a blank is: where that begins which two
   * things have become. (Two numbers would be one.) So is each one with a thing that is none.
   */
  static void withoutBlanks(String tape, Reader reader) {
    LibraryDesk x = new LibraryDesk();
    x.make(0, 0, 0);
    x.make(2, 0, 0);
    tape(x, tape);
    same("<" + tape + ">", of(() -> reader.read(x)).startsWith("throws"), false);
    for (int i = tape.indexOf(' '); i >= 0; i = tape.indexOf(' ', i + 1)) {
      if (!Character.isDigit(tape.charAt(i - 1)) || !Character.isDigit(tape.charAt(i + 1))) {
        broken(x, tape.substring(0, i) + tape.substring(i + 1), () -> reader.read(x), tape.lastIndexOf(' ', i - 1) + 1);
      }
    }
    wrongThings(x, tape, reader);
  }

  /** Each word, number or sign with another byte in front or behind can't stand where it stood; nor can the end. */
  private static void wrongThings(LibraryDesk x, String tape, Reader reader) {
    int to = -1;
    while (to < tape.length()) {
      int from = to + 1;
      to = tape.indexOf(' ', from) < 0 ? tape.length() : tape.indexOf(' ', from);
      for (String other : new String[] {"x", "\0", "|", "\u00ff"}) {
        broken(x, tape.substring(0, from) + other + tape.substring(from), () -> reader.read(x), from);
        broken(x, tape.substring(0, to) + other + tape.substring(to), () -> reader.read(x), from);
      }
      broken(x, tape.substring(0, from), () -> reader.read(x), from);
    }
  }

  static void end(String name) {
    if (wrong != 0) {
      System.out.println(name + ": " + wrong + " of " + calls + " calls not as due");
      System.exit(1);
    }
    System.out.println(name + ": " + calls + " calls as due");
  }
}
