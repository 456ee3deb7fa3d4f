import java.util.ArrayList;
import java.util.List;
import java.util.NoSuchElementException;
import java.util.Random;

/** Promises 5 and 6 (of MAPS), beside maps of the plainest form. */
public final class MapTest {
  private static final long NONE = Check.NONE;

  /** Keys with VALUES in order; HASH has its BINS as lists. */
  private static class Model {
    int kind;
    int a;
    int b;
    int changes;
    int table;
    List<List<int[]>> bins = new ArrayList<>();
    List<Boolean> bushy = new ArrayList<>();
    List<int[]> row = new ArrayList<>();

    List<int[]> all() {
      if (kind != 2) {
        return row;
      }
      List<int[]> l = new ArrayList<>();
      for (List<int[]> bin : bins) {
        l.addAll(bin);
      }
      return l;
    }

    int compare(int x, int y) {
      return kind == 4 ? ListTest.order(a).compare(x, y) : x == y ? 0 : 1;
    }

    int[] find(int key) {
      for (int[] e : all()) {
        if (compare(e[0], key) == 0) {
          return e;
        }
      }
      return null;
    }

    boolean full() {
      return all().size() >= 1000 && !(kind == 3 && a > 0);
    }

    int bin(int key) {
      int h = b == 0 ? key : b == 1 ? Math.floorMod(key, 16) : b == 2 ? 7 : key * -1640531527;
      return Math.floorMod(h ^ (h >>> 16), table);
    }

    void resize(int n) {
      List<List<int[]>> old = bins;
      List<Boolean> was = bushy;
      table = n;
      bins = new ArrayList<>();
      bushy = new ArrayList<>();
      boolean[] from = new boolean[n];
      for (int i = 0; i < n; i++) {
        bins.add(new ArrayList<>());
        from[i] = old.size() > 0 && was.get(i % old.size());
      }
      for (List<int[]> l : old) {
        for (int[] e : l) {
          bins.get(bin(e[0])).add(e);
        }
      }
      for (int i = 0; i < n; i++) {
        bushy.add(from[i] && bins.get(i).size() > 6);
      }
    }

    void enter(int key, int value) {
      int[] e = {key, value};
      changes++;
      if (kind == 2) {
        if (table == 0) {
          int n = 1;
          while (n < a) {
            n *= 2;
          }
          resize(n);
        }
        List<int[]> bin = bins.get(bin(key));
        bin.add(e);
        if (bin.size() > 8) {
          if (table < 64) {
            resize(table * 2);
          } else {
            bushy.set(bin(key), true);
          }
        }
        if (all().size() * 4 > table * 3) {
          resize(table * 2);
        }
        return;
      }
      int i = row.size();
      while (kind == 4 && i > 0 && compare(row.get(i - 1)[0], key) > 0) {
        i--;
      }
      row.add(i, e);
      if (kind == 3 && a > 0 && row.size() > a) {
        row.remove(0);
        changes++;
      }
    }

    void remove(int[] e) {
      changes++;
      if (kind != 2) {
        row.remove(e);
        return;
      }
      int i = bin(e[0]);
      bins.get(i).remove(e);
      if (bins.get(i).size() <= 6) {
        bushy.set(i, false);
      }
    }

    void use(int[] e) {
      if (kind == 3 && b == 1 && row.get(row.size() - 1) != e) {
        row.remove(e);
        row.add(e);
        changes++;
      }
    }
  }

  private interface In {
    boolean has(int key);
  }

  /** A MAP, SUBMAP or CURSOR. */
  private static final class Thing {
    Model m;
    In in = k -> true;
    boolean turned;
    boolean sub;
    boolean cursor;
    int at;
    int passed = -1;
    int seen;
    Thing of;

    List<int[]> keys() {
      List<int[]> l = new ArrayList<>();
      for (int[] e : m.all()) {
        if (in.has(e[0])) {
          l.add(turned ? 0 : l.size(), e);
        }
      }
      return l;
    }

    int compare(int x, int y) {
      return turned ? m.compare(y, x) : m.compare(x, y);
    }

    int[] find(int key) {
      int[] e = m.find(key);
      return e != null && in.has(e[0]) ? e : null;
    }
  }

  private static final List<Thing> things = new ArrayList<>();

  public static void main(String[] args) {
    for (int seed = 0; seed < 2500; seed++) {
      play(Check.random(seed));
    }
    for (int rule = 0; rule < 4; rule++) {
      great(rule);
    }
    for (int seed = 0; seed < 400; seed++) {
      bushySplits(Check.random(seed));
    }
    fullMaps();
    words();
    Check.end("MapTest");
  }

  private static int drawKey(Random r, int range) {
    switch (r.nextInt(12)) {
      case 0:
        return r.nextInt();
      case 1:
        return r.nextInt(5) * 65536 * 16 + r.nextInt(3);
      default:
        return r.nextInt(range) - range / 4;
    }
  }

  private static void make(LibraryDesk x, int kind, int a, int b) {
    Check.due(() -> x.make(kind, a, b), things.size());
    Thing t = new Thing();
    t.m = new Model();
    t.m.kind = kind;
    t.m.a = a;
    t.m.b = b;
    things.add(t);
  }

  private static void play(Random r) {
    LibraryDesk x = new LibraryDesk();
    things.clear();
    int range = r.nextBoolean() ? 12 : 80;
    int kinds = r.nextInt(3);
    make(x, 2, r.nextInt(70), r.nextInt(4));
    make(x, 3, r.nextInt(2) * r.nextInt(20), r.nextInt(2));
    make(x, 4, r.nextInt(4), 0);
    make(x, 2 + kinds, r.nextInt(4), r.nextInt(2));
    for (int call = 0; call < 200; call++) {
      int o = r.nextInt(things.size() + 1);
      if (o == things.size()) {
        o = 2;
      }
      int at = o;
      Thing t = things.get(o);
      int a = drawKey(r, range);
      int b = r.nextInt(3) == 0 ? drawKey(r, range) : r.nextInt(5) - 2;
      if (t.cursor) {
        int op = r.nextInt(10);
        Check.same("move " + op, Check.of(() -> x.move(at, op, a)), Check.of(() -> moved(t, op, a)));
        continue;
      }
      int what = r.nextInt(24);
      if (what == 0 && things.size() < 22) {
        view(x, at, r.nextInt(6), a, drawKey(r, range));
        continue;
      }
      if (what == 1 && things.size() < 22) {
        Check.due(() -> x.cursor(at), things.size());
        Thing c = new Thing();
        c.cursor = true;
        c.m = t.m;
        c.of = t;
        c.seen = t.m.changes;
        things.add(c);
        continue;
      }
      int op = r.nextInt(4) == 0 ? r.nextInt(25) : r.nextInt(2) * 8 / (1 + r.nextInt(2) * 7);
      int bb = op == 19 || op == 20 ? r.nextInt(things.size() + 1) : b;
      Check.same("map " + op + " " + a + " " + bb, Check.of(() -> x.map(at, op, a, bb)), Check.of(() -> mapped(at, op, a, bb)));
      if (r.nextInt(4) == 0) {
        compare(x);
      }
    }
    compare(x);
  }

  private static void compare(LibraryDesk x) {
    for (int i = 0; i < things.size(); i++) {
      Thing t = things.get(i);
      int o = i;
      if (t.cursor) {
        continue;
      }
      List<int[]> l = t.keys();
      Check.due(() -> x.map(o, 4, 0, 0), l.size());
      for (int k = 0; k < l.size(); k++) {
        int place = k;
        Check.due("key " + k, () -> x.item(o, place, 0), l.get(k)[0]);
        Check.due("value " + k, () -> x.item(o, place, 1), l.get(k)[1]);
      }
      Check.beyond(() -> x.item(o, l.size(), 0));
      Check.beyond(() -> x.item(o, -1, 1));
      if (t.m.kind == 2) {
        Check.due("TABLE", () -> x.map(o, 21, 0, 0), t.m.table);
        Check.due("BUSHY", () -> x.map(o, 22, 0, 0), t.m.bushy.stream().filter(v -> v).count());
      }
    }
  }

  private static void view(LibraryDesk x, int at, int kind, int a, int b) {
    Thing t = things.get(at);
    if (t.m.kind != 4) {
      Check.cast(() -> x.view(at, kind, a, b));
      return;
    }
    if (kind < 1 || kind > 4 || kind == 1 && t.compare(b, a) < 0) {
      Check.illegal(() -> x.view(at, kind, a, b));
      return;
    }
    Check.due(() -> x.view(at, kind, a, b), things.size());
    Thing s = new Thing();
    s.m = t.m;
    s.sub = true;
    s.of = t;
    s.turned = t.turned ^ kind == 4;
    s.in = k -> t.in.has(k) && (kind != 1 && kind != 3 || t.compare(k, a) >= 0)
        && (kind != 1 && kind != 2 || t.compare(k, kind == 1 ? b : a) < 0);
    things.add(s);
  }

  private static long moved(Thing c, int op, int a) {
    if (op > 8) {
      throw new IllegalArgumentException();
    }
    if (c.seen != c.m.changes) {
      throw new IllegalStateException();
    }
    if (op == 1 || op == 3 || op == 4 || op == 7) {
      throw new UnsupportedOperationException();
    }
    List<int[]> l = c.of.keys();
    if (op == 0) {
      if (c.at >= l.size()) {
        throw new NoSuchElementException();
      }
      c.passed = c.at++;
      return l.get(c.passed)[0];
    }
    if (op == 2) {
      return c.at < l.size() ? 1 : 0;
    }
    if (c.passed < 0) {
      throw new IllegalStateException();
    }
    int[] e = l.get(c.passed);
    if (op == 5) {
      c.m.remove(e);
      c.seen = c.m.changes;
      c.at--;
      c.passed = -1;
      return e[0];
    }
    int was = e[1];
    e[1] = op == 6 ? a : e[1];
    return was;
  }

  private static long put(Thing t, int op, int a, int b) {
    int[] e = t.find(a);
    if (e != null) {
      int was = e[1];
      e[1] = op == 6 ? was : b;
      t.m.use(e);
      return was;
    }
    if (op != 7) {
      if (!t.in.has(a)) {
        throw new IllegalArgumentException();
      }
      if (t.m.full()) {
        throw new IllegalStateException();
      }
      t.m.enter(a, b);
    }
    return NONE;
  }

  private static long mapped(int at, int op, int a, int b) {
    Thing t = things.get(at);
    Model m = t.m;
    Thing other = t;
    if (op == 19 || op == 20) {
      if (b >= things.size()) {
        throw new NoSuchElementException();
      }
      other = things.get(b);
      if (other.cursor) {
        throw new ClassCastException();
      }
    }
    if (op > 23 || op == 20 && at == b) {
      throw new IllegalArgumentException();
    }
    if (op >= 10 && op <= 13 && m.kind == 2 || (op >= 14 && op <= 17 || op == 23) && m.kind != 4
        || (op == 21 || op == 22) && m.kind != 2) {
      throw new UnsupportedOperationException();
    }
    List<int[]> l = t.keys();
    int[] e = t.find(a);
    switch (op) {
      case 0:
      case 6:
      case 7:
        return put(t, op, a, b);
      case 1:
        if (e != null) {
          m.use(e);
        }
        return e == null ? NONE : e[1];
      case 2:
        if (e != null) {
          m.remove(e);
        }
        return e == null ? NONE : e[1];
      case 3:
        return e == null ? 0 : 1;
      case 4:
        return l.size();
      case 5:
        int before = m.changes;
        for (int[] k : l) {
          m.remove(k);
        }
        m.changes = before + (l.isEmpty() ? 0 : 1);
        return l.size();
      case 8:
        if (e == null) {
          put(t, 0, a, b);
          return b;
        }
        if (e[1] + b == 0) {
          m.remove(e);
          return NONE;
        }
        e[1] += b;
        m.use(e);
        return e[1];
      case 9:
        return l.stream().filter(k -> k[1] == a).count();
      case 10:
      case 11:
      case 12:
      case 13:
        if (l.isEmpty()) {
          throw new NoSuchElementException();
        }
        int[] end = l.get(op % 2 == 0 ? 0 : l.size() - 1);
        if (op >= 12) {
          m.remove(end);
        }
        return end[0];
      case 14:
      case 15:
        long best = NONE;
        for (int[] k : l) {
          int c = t.compare(k[0], a);
          best = c < 0 || c == 0 && op == 15 ? k[0] : best;
        }
        return best;
      case 16:
      case 17:
        for (int[] k : l) {
          int c = t.compare(k[0], a);
          if (c > 0 || c == 0 && op == 16) {
            return k[0];
          }
        }
        return NONE;
      case 18:
        int sum = 0;
        for (int[] k : l) {
          sum += k[0] ^ k[1];
        }
        return sum;
      case 19:
        boolean same = l.size() == other.keys().size();
        for (int[] k : l) {
          int[] f = other.find(k[0]);
          same &= f != null && f[1] == k[1];
        }
        return same ? 1 : 0;
      case 20:
        return all(t, other);
      case 21:
        return m.table;
      case 22:
        return m.bushy.stream().filter(v -> v).count();
      default:
        return l.stream().filter(k -> t.compare(k[0], a) < 0).count();
    }
  }

  private static long all(Thing t, Thing other) {
    List<int[]> come = new ArrayList<>();
    for (int[] k : other.keys()) {
      come.add(k.clone());
      if (t.find(k[0]) == null && !t.in.has(k[0])) {
        throw new IllegalArgumentException();
      }
    }
    for (int[] k : come) {
      put(t, 0, k[0], k[1]);
    }
    return come.size();
  }

  private static void great(int rule) {
    LibraryDesk x = new LibraryDesk();
    things.clear();
    make(x, 2, rule * 3, rule);
    Random r = Check.random(rule);
    for (int i = 0; i < 3000; i++) {
      int key = r.nextInt(4) == 0 ? r.nextInt(1200) : i;
      int op = r.nextInt(3) == 0 ? 2 : 0;
      Check.same("map", Check.of(() -> x.map(0, op, key, key)), Check.of(() -> mapped(0, op, key, key)));
      Check.due(() -> x.map(0, 22, 0, 0), things.get(0).m.bushy.stream().filter(v -> v).count());
      Check.due(() -> x.map(0, 21, 0, 0), things.get(0).m.table);
    }
    compare(x);
    Check.same("5", Check.of(() -> x.map(0, 5, 0, 0)), Check.of(() -> mapped(0, 5, 0, 0)));
    compare(x);
  }

  /** BINS that are BUSHY fall apart in every way when the TABLE is doubled, and by keys that go. */
  private static void bushySplits(Random r) {
    LibraryDesk x = new LibraryDesk();
    things.clear();
    make(x, 2, 33 + r.nextInt(32), r.nextInt(2) * 3);
    int stride = 64 << r.nextInt(3);
    int odds = 1 + r.nextInt(4);
    for (int i = 0; i < 160; i++) {
      int key = r.nextInt(odds + 1) == 0 ? r.nextInt(400) : r.nextInt(24) * stride + r.nextInt(2);
      int op = r.nextInt(5) == 0 ? 2 : 0;
      Check.same("map", Check.of(() -> x.map(0, op, key, key)), Check.of(() -> mapped(0, op, key, key)));
      Check.due("BUSHY", () -> x.map(0, 22, 0, 0), things.get(0).m.bushy.stream().filter(v -> v).count());
      Check.due("TABLE", () -> x.map(0, 21, 0, 0), things.get(0).m.table);
    }
    compare(x);
  }

  private static void fullMaps() {
    LibraryDesk x = new LibraryDesk();
    x.make(2, 0, 0);
    x.make(3, 0, 0);
    x.make(3, 1000, 1);
    x.make(4, 0, 0);
    x.make(4, 3, 0);
    for (int i = 0; i < 1000; i++) {
      int k = i;
      for (int o = 0; o < 4; o++) {
        int at = o;
        Check.due(() -> x.map(at, 0, k, k), NONE);
      }
    }
    for (int o : new int[] {0, 1, 3}) {
      for (int op : new int[] {0, 6, 8}) {
        Check.state(() -> x.map(o, op, 5000, 1));
        Check.due(() -> x.map(o, op, 500, 0), 500);
        x.map(o, 0, 500, 500);
      }
      Check.due(() -> x.map(o, 7, 5000, 1), NONE);
      Check.due(() -> x.map(o, 4, 0, 0), 1000);
    }
    Check.due(() -> x.map(2, 0, 5000, 1), NONE);
    Check.due(() -> x.map(2, 4, 0, 0), 1000);
    Check.due(() -> x.map(2, 3, 0, 0), 0);
    Check.due(() -> x.map(2, 10, 0, 0), 1);
    Check.due(() -> x.map(4, 20, 0, 3), 1000);
    Check.due(() -> x.map(4, 4, 0, 0), 10);
    Check.due(() -> x.map(4, 1, 3, 0), 993);
    Check.due(() -> x.map(4, 10, 0, 0), 0);
    Check.due(() -> x.map(3, 20, 0, 1), 1000);
    Check.state(() -> x.map(3, 20, 0, 2));
    Check.due(() -> x.map(3, 3, 5000, 0), 0);
    Check.due(() -> x.map(0, 21, 0, 0), 2048);
    Check.due(() -> x.view(3, 2, 100, 0), 5);
    Check.illegal(() -> x.map(5, 0, 100, 0));
    Check.illegal(() -> x.map(5, 6, 5000, 0));
    Check.illegal(() -> x.map(5, 8, 5000, 0));
    Check.due(() -> x.map(5, 7, 5000, 0), NONE);
    Check.state(() -> x.map(5, 0, -1, 0));
    Check.illegal(() -> x.map(5, 20, 0, 2));
    Check.due(() -> x.map(5, 5, 0, 0), 100);
    Check.due(() -> x.map(5, 0, -1, 0), NONE);
    Check.due(() -> x.map(3, 4, 0, 0), 901);
  }

  private static void words() {
    LibraryDesk x = new LibraryDesk();
    x.make(0, 0, 0);
    x.make(2, 5, 0);
    x.make(3, 2, 1);
    Check.due(() -> x.map(1, 21, 0, 0), 0);
    Check.due(() -> x.map(1, 8, 4, 0), 0);
    Check.due(() -> x.map(1, 4, 0, 0), 1);
    Check.due(() -> x.map(1, 21, 0, 0), 8);
    Check.due(() -> x.map(1, 8, 4, 0), NONE);
    Check.cast(() -> x.map(0, 4, 0, 0));
    Check.cast(() -> x.map(1, 20, 0, 0));
    Check.none(() -> x.map(1, 19, 0, 9));
    Check.none(() -> x.map(0, 19, 0, 9));
    Check.none(() -> x.map(9, 99, 0, 0));
    Check.cast(() -> x.map(0, 99, 0, 0));
    Check.illegal(() -> x.map(1, 24, 0, 0));
    Check.illegal(() -> x.map(1, -1, 0, 0));
    Check.illegal(() -> x.map(1, 20, 0, 1));
    Check.unsupported(() -> x.map(1, 10, 0, 0));
    Check.unsupported(() -> x.map(2, 14, 0, 0));
    Check.unsupported(() -> x.map(2, 23, 0, 0));
    Check.unsupported(() -> x.map(2, 21, 0, 0));
    Check.none(() -> x.map(2, 12, 0, 0));
    Check.due(() -> x.map(2, 0, 1, 10), NONE);
    Check.due(() -> x.map(2, 0, 2, 20), NONE);
    Check.due(() -> x.map(2, 1, 1, 0), 10);
    Check.due(() -> x.cursor(2), 3);
    Check.due(() -> x.map(2, 1, 1, 0), 10);
    Check.due(() -> x.move(3, 0, 0), 2);
    Check.due(() -> x.map(2, 3, 2, 0), 1);
    Check.due(() -> x.item(2, 0, 0), 2);
    Check.due(() -> x.move(3, 8, 0), 20);
    Check.due(() -> x.map(2, 6, 2, 5), 20);
    Check.state(() -> x.move(3, 8, 0));
    Check.due(() -> x.map(2, 0, 3, 30), NONE);
    Check.due(() -> x.map(2, 3, 1, 0), 0);
    Check.illegal(() -> x.item(2, 0, 2));
    Check.illegal(() -> x.item(2, 0, -1));
    Check.illegal(() -> x.item(0, 0, 1));
    Check.cast(() -> x.item(3, 0, 7));
    Check.none(() -> x.item(8, 0, 7));
    Check.cast(() -> x.view(1, 1, 0, 0));
    Check.cast(() -> x.view(2, 0, 0, 0));
  }
}
