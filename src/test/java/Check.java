/** What all tests use: calls with the answer or the exception that is due, THE TAPE and OUT as texts. */
final class Check {
  static final long NONE = 1L << 40;
  static int wrong = 0;
  private static int calls = 0;

  /** Seeds that are near one another would begin with the same numbers otherwise. */
  static java.util.Random random(long seed) {
    return new java.util.Random((seed + 1) * 0x9E3779B97F4A7C15L);
  }

  interface Call {
    long go();
  }

  /** The answer of a call, or throws. and the name of what it throws. */
  static String of(Call call) {
    calls++;
    try {
      return "" + call.go();
    } catch (RuntimeException e) {
      if (e.getMessage() != null) {
        fail("the machine threw " + e);
      }
      return "throws." + e.getClass().getSimpleName();
    }
  }

  static void fail(String what) {
    wrong++;
    if (wrong < 20) {
      System.out.println(what.length() <= 2000 ? what : what.substring(0, 2000) + " ..");
      StackTraceElement[] trace = new Throwable().getStackTrace();
      for (StackTraceElement e : trace) {
        if (!e.getClassName().equals("Check")) {
          System.out.println("  at " + e);
          break;
        }
      }
    }
  }

  static void same(String what, Object got, Object want) {
    if (!String.valueOf(got).equals(String.valueOf(want))) {
      fail(what + " answered " + got + ", due is " + want);
    }
  }

  static void due(Call call, long want) {
    same("a call", of(call), want);
  }

  static void due(String what, Call call, long want) {
    same(what, of(call), want);
  }

  static void none(Call call) {
    same("a call", of(call), "throws.NoSuchElementException");
  }

  static void cast(Call call) {
    same("a call", of(call), "throws.ClassCastException");
  }

  static void illegal(Call call) {
    same("a call", of(call), "throws.IllegalArgumentException");
  }

  static void state(Call call) {
    same("a call", of(call), "throws.IllegalStateException");
  }

  static void unsupported(Call call) {
    same("a call", of(call), "throws.UnsupportedOperationException");
  }

  static void beyond(Call call) {
    same("a call", of(call), "throws.IndexOutOfBoundsException");
  }

  static void arithmetic(Call call) {
    same("a call", of(call), "throws.ArithmeticException");
  }

  static void negative(Call call) {
    same("a call", of(call), "throws.NegativeArraySizeException");
  }

  /** The call is refused, and all that can be seen of x is behind it as it was. */
  private static void refused(LibraryDesk x, String what, Call call) {
    String before = State.of(x);
    same("a call", of(call), "throws." + what + "Exception");
    unchanged(x, before);
  }

  static void none(LibraryDesk x, Call call) {
    refused(x, "NoSuchElement", call);
  }

  static void cast(LibraryDesk x, Call call) {
    refused(x, "ClassCast", call);
  }

  static void illegal(LibraryDesk x, Call call) {
    refused(x, "IllegalArgument", call);
  }

  static void state(LibraryDesk x, Call call) {
    refused(x, "IllegalState", call);
  }

  static void unsupported(LibraryDesk x, Call call) {
    refused(x, "UnsupportedOperation", call);
  }

  static void beyond(LibraryDesk x, Call call) {
    refused(x, "IndexOutOfBounds", call);
  }

  static void arithmetic(LibraryDesk x, Call call) {
    refused(x, "Arithmetic", call);
  }

  static void negative(LibraryDesk x, Call call) {
    refused(x, "NegativeArraySize", call);
  }

  /** The call answers, and all that can be seen of x is behind it as it was. */
  static void still(LibraryDesk x, Call call, long want) {
    String before = State.of(x);
    due(call, want);
    unchanged(x, before);
  }

  private static void unchanged(LibraryDesk x, String before) {
    String now = State.of(x);
    int i = 0;
    while (i < before.length() && i < now.length() && before.charAt(i) == now.charAt(i)) {
      i++;
    }
    if (!now.equals(before)) {
      fail("behind a call that changes nothing is .." + near(now, i) + ".. what was .." + near(before, i) + "..");
    }
  }

  private static String near(String s, int i) {
    return s.substring(Math.max(0, i - 60), Math.min(s.length(), i + 20));
  }

  /** A desk whose OBJECT 0 is a LIST of these. */
  static LibraryDesk row(int... elements) {
    LibraryDesk x = new LibraryDesk();
    x.make(0, 0, 0);
    for (int e : elements) {
      x.list(0, 0, e, 0);
    }
    return x;
  }

  /** LIST, VIEW or RING o has just these. */
  static void holds(LibraryDesk x, int o, int... elements) {
    String got = "";
    String want = "";
    for (int e : elements) {
      want += " " + e;
    }
    long size = x.count(10 + o) == 1 ? x.ring(o, 6, 0) : x.list(o, 24, 0, 0);
    for (int i = 0; i < size; i++) {
      got += " " + x.item(o, i, 0);
    }
    same("row " + o, got, want);
  }

  /** MAP o has just these keys in this order. */
  static void keys(LibraryDesk x, int o, int... keys) {
    String got = "";
    String want = "";
    for (int k : keys) {
      want += " " + k;
    }
    for (int i = 0; i < x.map(o, 4, 0, 0); i++) {
      got += " " + x.item(o, i, 0);
    }
    same("keys of " + o, got, want);
  }

  /** LIST o, which is empty, gets n times the ELEMENT 7, by few calls. */
  static void fill(LibraryDesk x, int o, int n) {
    for (int bit = 11; bit >= 0; bit--) {
      x.list(o, 9, 0, o);
      if ((n >> bit & 1) != 0) {
        x.list(o, 0, 7, 0);
      }
    }
  }

  /** A desk with an OBJECT of each KIND; its number is that of its KIND, 21 .. 23 are free. */
  static LibraryDesk furnished() {
    LibraryDesk x = row(3, 1, 2);
    for (int kind = 1; kind <= 7; kind++) {
      x.make(kind, 1, 0);
    }
    for (int i = 1; i <= 3; i++) {
      x.ring(1, 1, i);
      x.map(2, 0, i, 10 * i);
      x.map(4, 0, i, 10 * i);
      x.heap(5, 0, i);
      x.bits(6, 0, i, 0);
    }
    x.map(3, 0, 1, 10);
    tape(x, "abc");
    x.text(7, 0, 0, 0);
    tape(x, "b");
    x.pattern();
    x.cursor(0);
    x.view(0, 0, 0, 2);
    for (int kind = 11; kind <= 19; kind++) {
      x.make(kind, 2, 0);
    }
    x.set(11, 5);
    tape(x, "2.5");
    x.read(12, 10);
    x.view(4, 4, 0, 0);
    for (int o = 0; o <= 20; o++) {
      same("KIND of " + o, x.count(10 + o), o);
    }
    return x;
  }

  /** THE TAPE, which is empty, gets these bytes. */
  static void tape(LibraryDesk x, String s) {
    x.end(0);
    int[] v = new int[5];
    for (int i = 0; i < s.length(); i += 20) {
      for (int k = 0; k < 5; k++) {
        v[k] = 0;
        for (int b = 0; b < 4; b++) {
          int at = i + 4 * k + b;
          v[k] = v[k] << 8 | (at < s.length() ? s.charAt(at) & 255 : 0);
        }
      }
      x.feed(v[0], v[1], v[2], v[3], v[4]);
    }
    x.end(s.length());
  }

  static String out(LibraryDesk x) {
    StringBuilder b = new StringBuilder();
    int n = (int) x.count(1);
    for (int i = 0; i < n; i += 8) {
      long w = x.word(i);
      for (int k = 0; k < 8 && i + k < n; k++) {
        b.append((char) (w >>> 56 - 8 * k & 255));
      }
    }
    return b.toString();
  }

  /** A TEXT of these bytes. */
  static int text(LibraryDesk x, String s) {
    int o = x.make(7, 0, 0);
    tape(x, s);
    x.text(o, 0, 0, 0);
    return o;
  }

  static String textOf(LibraryDesk x, int o) {
    x.text(o, 16, 0, 0);
    return out(x);
  }

  /** The call breaks at a place. */
  static void broken(LibraryDesk x, String tape, Call call, long place) {
    tape(x, tape);
    String before = State.of(x);
    same("<" + tape + ">", of(call), "throws.UnsupportedOperationException");
    unchanged(x, before);
    same("PLACE of <" + tape + ">", x.count(3), place);
    same("THE TAPE", x.count(0), 0);
  }

  interface Reader {
    long read(LibraryDesk x);
  }

  /**
   * The tape is none that is broken, but each one that lacks a blank is: where that begins which two
   * things have become. (Two numbers would be one.) So is each one with a thing that is none.
   */
  static void withoutBlanks(String tape, Reader reader) {
    LibraryDesk x = new LibraryDesk();
    x.make(0, 0, 0);
    x.make(2, 0, 0);
    tape(x, tape);
    same("<" + tape + ">", of(() -> reader.read(x)).startsWith("throws"), false);
    for (int i = tape.indexOf(' '); i >= 0; i = tape.indexOf(' ', i + 1)) {
      if (!Character.isDigit(tape.charAt(i - 1)) || !Character.isDigit(tape.charAt(i + 1))) {
        broken(x, tape.substring(0, i) + tape.substring(i + 1), () -> reader.read(x), tape.lastIndexOf(' ', i - 1) + 1);
      }
    }
    wrongThings(x, tape, reader);
  }

  /** Each word, number or sign with another byte in front or behind can't stand where it stood; nor can the end. */
  private static void wrongThings(LibraryDesk x, String tape, Reader reader) {
    int to = -1;
    while (to < tape.length()) {
      int from = to + 1;
      to = tape.indexOf(' ', from) < 0 ? tape.length() : tape.indexOf(' ', from);
      for (String other : new String[] {"x", "\0", "|", "\u00ff"}) {
        broken(x, tape.substring(0, from) + other + tape.substring(from), () -> reader.read(x), from);
        broken(x, tape.substring(0, to) + other + tape.substring(to), () -> reader.read(x), from);
      }
      broken(x, tape.substring(0, from), () -> reader.read(x), from);
    }
  }

  static void end(String name) {
    if (wrong != 0) {
      System.out.println(name + ": " + wrong + " of " + calls + " calls not as due");
      System.exit(1);
    }
    System.out.println(name + ": " + calls + " calls as due");
  }
}
