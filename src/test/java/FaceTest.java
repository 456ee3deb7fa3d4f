import java.util.Random;

/** All calls with numbers of every sort: each answers, or throws what it may throw, by itself. */
public final class FaceTest {
  private static Random r;

  public static void main(String[] args) {
    for (int seed = 0; seed < 4000; seed++) {
      r = new Random(seed);
      LibraryDesk x = new LibraryDesk();
      int most = 1 + r.nextInt(24);
      for (int i = 0; i < 512; i++) {
        call(x, most);
      }
    }
    faces();
    Check.end("FaceTest");
  }

  private static int any(int most) {
    switch (r.nextInt(14)) {
      case 0:
        return r.nextInt();
      case 1:
        return -1 - r.nextInt(3);
      case 2:
        return new int[] {Integer.MIN_VALUE, Integer.MAX_VALUE, 2000, 4000, 4095, 4096, 1000, 65536}[r.nextInt(8)];
      default:
        return r.nextInt(most);
    }
  }

  private static final String[] TAPES = {"range 0 9 | map + 2 | list", "list 0 | sorted 2 | group 3", "keys 2 | filter odd | sum", "values 3 | distinct | list",
      "iterate 1 * 3 | limit 20 | copies 2 | list", "(a|b)*c", "a*?b+", "(?=a(b)?)a*+", "[^a-c\\d]+|.", "(\\w+)\\s*$", "lock 0; wait 0; unlock 0", "put 1; take 1; jump 0",
      "add 1; sleep 2; jump 0", "acquire 2 1; release 2 1", "%d%5x%-6s|", "%c%b%,d%%", "12345678901234567890", "-3.25", "zz9", "QUJD", "abcabc", "", "$1x$0", "aab", "-"};

  private static void tape(LibraryDesk x) {
    StringBuilder b = new StringBuilder(TAPES[r.nextInt(TAPES.length)]);
    if (r.nextInt(3) == 0 && b.length() > 0) {
      b.setCharAt(r.nextInt(b.length()), (char) (r.nextInt(4) == 0 ? r.nextInt(256) : 32 + r.nextInt(95)));
    }
    Check.tape(x, b.toString());
  }

  private static int number(int most) {
    return r.nextInt(10) == 0 ? any(30) : r.nextInt(most);
  }

  private static void call(LibraryDesk x, int most) {
    int o = number(most);
    int p = number(most);
    int a = any(r.nextBoolean() ? 6 : 50);
    int b = any(r.nextBoolean() ? 6 : most);
    if (r.nextInt(3) == 0) {
      tape(x);
    }
    Check.Call c = first(x, o, p, a, b);
    String of = Check.of(c);
    if (of.startsWith("throws.") && !" NoSuchElementException ClassCastException IllegalArgumentException IllegalStateException UnsupportedOperationException IndexOutOfBoundsException ArithmeticException NegativeArraySizeException "
        .contains(" " + of.substring(7) + " ")) {
      Check.fail("a call answered " + of);
    }
  }

  private static Check.Call first(LibraryDesk x, int o, int p, int a, int b) {
    switch (r.nextInt(30)) {
      case 0:
      case 1:
        int kind = number(20);
        return () -> x.make(kind, a, b);
      case 2:
        int d = r.nextInt(3);
        return () -> d == 0 ? x.drop(o) : x.count(a);
      case 3:
      case 4:
      case 5:
        int l = number(31);
        return () -> x.list(o, l, a, b);
      case 6:
        int g = number(15);
        return () -> x.ring(o, g, a);
      case 7:
      case 8:
      case 9:
        int m = number(24);
        return () -> x.map(o, m, a, b);
      case 10:
        int v = number(5);
        return () -> x.view(o, v, a, b);
      case 11:
        return () -> x.cursor(o);
      case 12:
        int mv = number(9);
        return () -> x.move(o, mv, a);
      case 13:
        int h = number(8);
        return () -> x.heap(o, h, a);
      case 14:
        int bi = number(20);
        return () -> x.bits(o, bi, a, b);
      case 15:
        int part = number(2);
        return () -> x.item(o, a, part);
      case 16:
      case 17:
        int t = number(21);
        return () -> x.text(o, t, a, b);
      case 18:
        return () -> x.pattern();
      case 19:
        int how = number(3);
        return () -> x.match(o, p, how, a);
      case 20:
        return () -> r.nextBoolean() ? x.group(a, b) : x.replace(o, p);
      case 21:
        return () -> r.nextBoolean() ? x.form(o) : x.set(o, r.nextLong());
      case 22:
        int w = number(14);
        return () -> x.whole(o, w, p, a);
      case 23:
        int de = number(8);
        return () -> x.decimal(o, de, p, p, r.nextBoolean() ? a : 8 * a + b);
      default:
        return second(x, o, p, a, b);
    }
  }

  private static Check.Call second(LibraryDesk x, int o, int p, int a, int b) {
    switch (r.nextInt(14)) {
      case 0:
        return () -> x.tell(o, a);
      case 1:
        return () -> x.order(o, p);
      case 2:
        return () -> x.read(o, r.nextBoolean() ? 10 : a);
      case 3:
        return () -> x.show(o, r.nextBoolean() ? 10 : a);
      case 4:
        return () -> x.stream();
      case 5:
      case 6:
        return () -> x.thread();
      case 7:
      case 8:
        return () -> x.step(number(8));
      case 9:
        return () -> r.nextInt(3) == 0 ? x.run(a, b) : x.tick(a);
      case 10:
        return () -> r.nextBoolean() ? x.interrupt(number(8)) : x.look(number(8), number(6));
      case 11:
        return () -> x.dead() + x.sync(o, number(5));
      case 12:
        return () -> r.nextBoolean() ? x.date(a, b, number(30)) : x.part(a, number(9));
      default:
        return () -> r.nextInt(3) == 0 ? x.word(a) : r.nextBoolean() ? x.plus(a, number(4), b) : x.between(a, b, number(4));
    }
  }

  /** The class has the members of the face, and no other ones that are not private. */
  private static void faces() {
    StringBuilder names = new StringBuilder();
    java.lang.reflect.Method[] methods = LibraryDesk.class.getDeclaredMethods();
    java.util.Arrays.sort(methods, (p, q) -> p.getName().compareTo(q.getName()));
    for (java.lang.reflect.Method m : methods) {
      if (!java.lang.reflect.Modifier.isPrivate(m.getModifiers()) && !m.isSynthetic()) {
        names.append(m.getName()).append(' ');
      }
    }
    Check.same("the face", names, "between bits count cursor date dead decimal drop end feed form group heap interrupt item list look make map match move order part pattern plus read replace ring run set show step stream sync tell text thread tick view whole word ");
    for (java.lang.reflect.Field f : LibraryDesk.class.getDeclaredFields()) {
      Check.same("" + f, java.lang.reflect.Modifier.isPrivate(f.getModifiers()), true);
    }
    Check.same("one constructor", LibraryDesk.class.getConstructors().length, 1);
  }
}
