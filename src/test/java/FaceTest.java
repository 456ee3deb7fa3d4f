import java.io.IOException;
import java.lang.reflect.Constructor;
import java.lang.reflect.Executable;
import java.lang.reflect.Field;
import java.lang.reflect.Method;
import java.lang.reflect.Modifier;
import java.nio.file.Files;
import java.nio.file.Paths;
import java.util.ArrayList;
import java.util.List;
import java.util.Random;
import java.util.Set;
import java.util.TreeSet;
import java.util.regex.Matcher;
import java.util.regex.Pattern;

/** All calls with numbers of every sort: each answers, or throws what it may throw, by itself. */
public final class FaceTest {
  private static Random r;

  public static void main(String[] args) throws IOException {
    int games = args.length > 0 ? Integer.parseInt(args[0]) : 3000;
    for (int seed = 0; seed < games; seed++) {
      r = Check.random(seed);
      LibraryDesk x = new LibraryDesk();
      LibraryDesk twin = new LibraryDesk();
      int most = 1 + r.nextInt(24);
      for (int i = 0; i < 512; i++) {
        call(x, twin, most);
      }
      Check.same("all", all(x), all(twin));
    }
    faces();
    Check.end("FaceTest");
  }

  private static int any(int most) {
    switch (r.nextInt(14)) {
      case 0:
        return r.nextInt();
      case 1:
        return -1 - r.nextInt(3);
      case 2:
        return new int[] {Integer.MIN_VALUE, Integer.MAX_VALUE, 2000, 4000, 4095, 4096, 1000, 65536}[r.nextInt(8)];
      default:
        return r.nextInt(most);
    }
  }

  private static final String[] TAPES = {"range 0 9 | map + 2 | list", "list 0 | sorted 2 | group 3", "keys 2 | filter odd | sum", "values 3 | distinct | list",
      "iterate 1 * 3 | limit 20 | copies 2 | list", "(a|b)*c", "a*?b+", "(?=a(b)?)a*+", "[^a-c\\d]+|.", "(\\w+)\\s*$", "lock 0; wait 0; unlock 0", "put 1; take 1; jump 0",
      "add 1; sleep 2; jump 0", "acquire 2 1; release 2 1", "%d%5x%-6s|", "%c%b%,d%%", "12345678901234567890", "-3.25", "zz9", "QUJD", "abcabc", "", "$1x$0", "aab", "-"};

  private static String tape() {
    StringBuilder b = new StringBuilder(TAPES[r.nextInt(TAPES.length)]);
    if (r.nextInt(3) == 0 && b.length() > 0) {
      b.setCharAt(r.nextInt(b.length()), (char) (r.nextInt(4) == 0 ? r.nextInt(256) : 32 + r.nextInt(95)));
    }
    return b.toString();
  }

  private static int number(int most) {
    return r.nextInt(10) == 0 ? any(30) : r.nextInt(most);
  }

  private interface On {
    long go(LibraryDesk x);
  }

  private static boolean reads;

  private static final String KNOWN = " NoSuchElementException ClassCastException IllegalArgumentException IllegalStateException "
      + "UnsupportedOperationException IndexOutOfBoundsException ArithmeticException NegativeArraySizeException ";

  /** The twin gets the calls alone that answer; what it tells in the end must be the same. */
  private static void call(LibraryDesk x, LibraryDesk twin, int most) {
    int o = number(most);
    int p = number(most);
    int a = any(r.nextBoolean() ? 6 : 50);
    int b = any(r.nextBoolean() ? 6 : most);
    if (r.nextInt(3) == 0) {
      String tape = tape();
      Check.tape(x, tape);
      Check.tape(twin, tape);
    }
    reads = false;
    On c = r.nextInt(30) < 24 ? first(o, p, a, b) : second(o, p, a, b);
    String of = Check.of(() -> c.go(x));
    if (!of.startsWith("throws.")) {
      Check.same("the twin", Check.of(() -> c.go(twin)), of);
    } else if (!KNOWN.contains(" " + of.substring(7) + " ")) {
      Check.fail("a call answered " + of);
    } else if (reads) {
      twin.end(0);
    }
    if (reads && x.count(0) != 0) {
      Check.fail("THE TAPE is not empty");
    }
  }

  private static String all(LibraryDesk x) {
    StringBuilder b = new StringBuilder();
    for (int what : new int[] {0, 1, 2, 4, 5}) {
      b.append(x.count(what)).append(' ');
    }
    b.append(Check.out(x));
    for (int i = 0; i < 20; i++) {
      b.append(x.group(i / 2, i % 2)).append(' ');
    }
    for (int i = 0; i < 48; i++) {
      b.append(x.look(i / 6, i % 6)).append(' ');
    }
    for (int i = 0; i < 24; i++) {
      int o = i;
      b.append("\n").append(x.count(10 + o)).append(": ");
      for (int op : new int[] {24, 25, 27}) {
        b.append(Check.of(() -> x.list(o, op, 0, 0))).append(' ');
      }
      for (int op : new int[] {4, 18, 21, 22}) {
        b.append(Check.of(() -> x.map(o, op, 0, 0))).append(' ');
      }
      for (int k = 0; k < 4; k++) {
        int at = k;
        b.append(Check.of(() -> x.item(o, at, 0))).append(' ').append(Check.of(() -> x.item(o, at, 1))).append(' ');
        b.append(Check.of(() -> x.sync(o, at))).append(' ').append(Check.of(() -> x.move(o, 2 * at, 0))).append(' ');
      }
      b.append(Check.of(() -> x.ring(o, 14, 0))).append(' ').append(Check.of(() -> x.ring(o, 7, 0))).append(' ');
      b.append(Check.of(() -> x.heap(o, 5, 0))).append(' ').append(Check.of(() -> x.heap(o, 1, 0))).append(' ');
      b.append(Check.of(() -> x.heap(o, 4, 0))).append(' ').append(Check.of(() -> x.bits(o, 11, 0, 0))).append(' ');
      b.append(Check.of(() -> x.bits(o, 19, 0, 0))).append(' ').append(Check.of(() -> x.text(o, 18, 0, 0))).append(' ');
      b.append(Check.of(() -> x.show(o, 10))).append(' ').append(Check.of(() -> x.tell(o, 6))).append(' ');
      b.append(Check.out(x));
    }
    return b.toString();
  }

  private static On first(int o, int p, int a, int b) {
    boolean coin = r.nextBoolean();
    switch (r.nextInt(24)) {
      case 0:
      case 1:
        int kind = number(20);
        return x -> x.make(kind, a, b);
      case 2:
        int d = r.nextInt(3);
        return x -> d == 0 ? x.drop(o) : a == 3 ? 0 : x.count(a);
      case 3:
      case 4:
      case 5:
        int l = number(31);
        return x -> x.list(o, l, a, b);
      case 6:
        int g = number(15);
        return x -> x.ring(o, g, a);
      case 7:
      case 8:
      case 9:
        int m = number(24);
        return x -> x.map(o, m, a, b);
      case 10:
        int v = number(5);
        return x -> x.view(o, v, a, b);
      case 11:
        return x -> x.cursor(o);
      case 12:
        int mv = number(9);
        return x -> x.move(o, mv, a);
      case 13:
        int h = number(8);
        return x -> x.heap(o, h, a);
      case 14:
        int bi = number(20);
        return x -> x.bits(o, bi, a, b);
      case 15:
        int part = number(2);
        return x -> x.item(o, a, part);
      case 16:
      case 17:
        int t = number(21);
        reads = t == 0 || t == 1 || t == 3 || t == 7 || t == 8 || t == 20;
        return x -> x.text(o, t, a, b);
      case 18:
        reads = true;
        return x -> x.pattern();
      case 19:
        int how = number(3);
        return x -> x.match(o, p, how, a);
      case 20:
        reads = !coin;
        return x -> coin ? x.group(a, b) : x.replace(o, p);
      case 21:
        long value = r.nextLong() >> r.nextInt(64);
        reads = coin;
        return x -> coin ? x.form(o) : x.set(o, value);
      case 22:
        int w = number(14);
        return x -> x.whole(o, w, p, a);
      default:
        int de = number(8);
        return x -> x.decimal(o, de, p, p, coin ? a : 8 * a + b);
    }
  }

  private static On second(int o, int p, int a, int b) {
    boolean coin = r.nextBoolean();
    int eight = number(8);
    int six = number(6);
    int four = number(4);
    switch (r.nextInt(14)) {
      case 0:
        return x -> x.tell(o, a);
      case 1:
        return x -> x.order(o, p);
      case 2:
        reads = true;
        return x -> x.read(o, coin ? 10 : a);
      case 3:
        return x -> x.show(o, coin ? 10 : a);
      case 4:
        reads = true;
        return x -> x.stream();
      case 5:
      case 6:
        reads = true;
        return x -> x.thread();
      case 7:
      case 8:
        return x -> x.step(eight);
      case 9:
        return x -> six < 3 ? x.run(a, b) : x.tick(a);
      case 10:
        return x -> coin ? x.interrupt(eight) : x.look(eight, six);
      case 11:
        return x -> x.dead() + x.sync(o, four);
      case 12:
        return x -> coin ? x.date(a, six, eight) : x.part(a, eight);
      default:
        return x -> six < 2 ? x.word(a) : coin ? x.plus(a, four, b) : x.between(a, b, four);
    }
  }

  /** The class has the members of the document's face, which answer and throw what it tells, and no other ones that are not private. */
  private static void faces() throws IOException {
    Set<String> told = new TreeSet<>();
    Pattern member = Pattern.compile("public (\\w+ )?(\\w+)\\(([^)]*)\\)( throws [^;]*)?;");
    Matcher m = member.matcher(Files.readString(Paths.get("../shared/DOC.md")));
    while (m.find()) {
      String types = m.group(3).replaceAll(" \\w+(?=,|$)", "");
      Set<String> thrown = new TreeSet<>();
      for (String e : m.group(4) == null ? new String[0] : m.group(4).replace(" throws ", "").split(", ")) {
        thrown.add(e.substring(e.lastIndexOf('.') + 1));
      }
      told.add((m.group(1) == null ? "" : m.group(1)) + m.group(2) + "(" + types + ") " + thrown);
    }
    Set<String> has = new TreeSet<>();
    for (Method x : LibraryDesk.class.getDeclaredMethods()) {
      if (!Modifier.isPrivate(x.getModifiers()) && !x.isSynthetic()) {
        has.add(x.getReturnType().getSimpleName() + " " + sign(x));
        Check.same("" + x, Modifier.toString(x.getModifiers()), "public");
      }
    }
    for (Constructor<?> x : LibraryDesk.class.getDeclaredConstructors()) {
      has.add(sign(x));
    }
    Check.same("the face", has, told);
    for (Field x : LibraryDesk.class.getDeclaredFields()) {
      Check.same("" + x, Modifier.isPrivate(x.getModifiers()), true);
    }
    Check.same("the class", Modifier.toString(LibraryDesk.class.getModifiers()), "public final");
  }

  private static String sign(Executable x) {
    List<String> types = new ArrayList<>();
    for (Class<?> type : x.getParameterTypes()) {
      types.add(type.getSimpleName());
    }
    Set<String> thrown = new TreeSet<>();
    for (Class<?> type : x.getExceptionTypes()) {
      thrown.add(type.getSimpleName());
    }
    return x.getName() + "(" + String.join(", ", types) + ") " + thrown;
  }
}
