import java.util.ArrayList;
import java.util.Arrays;
import java.util.Collections;
import java.util.Comparator;
import java.util.List;
import java.util.ListIterator;
import java.util.Random;

/** Promises 4 and 6 (of rows), beside ArrayList, its sub lists and its iterators. */
public final class ListTest {
  /** An ArrayList that tells how often its size was changed. */
  private static final class Row extends ArrayList<Integer> {
    private static final long serialVersionUID = 1;

    int changes() {
      return modCount;
    }
  }

  /** A LIST, a VIEW or a CURSOR as the test knows it. */
  private static final class Thing {
    Row root;
    List<Integer> list;
    ListIterator<Integer> cursor;
    int seen;
    int cap;
    int passed = -1;
    Thing of;

    boolean stale() {
      return seen != root.changes();
    }

    void know() {
      for (Thing t = this; t != null; t = t.of) {
        t.seen = root.changes();
      }
    }
  }

  static Comparator<Integer> order(int k) {
    switch (k) {
      case 0:
        return Comparator.naturalOrder();
      case 1:
        return Comparator.reverseOrder();
      case 2:
        return Comparator.<Integer>comparingLong(v -> Math.abs((long) v)).thenComparingInt(v -> v);
      default:
        return Comparator.comparingInt(v -> Math.floorMod(v, 10));
    }
  }

  public static void main(String[] args) {
    for (int seed = 0; seed < 3000; seed++) {
      play(Check.random(seed));
    }
    capacities();
    edges();
    rings();
    wrong();
    Check.end("ListTest");
  }

  private static final Thing[] things = new Thing[24];

  private static int free() {
    for (int i = 0; i < 24; i++) {
      if (things[i] == null) {
        return i;
      }
    }
    return -1;
  }

  private static void play(Random r) {
    LibraryDesk x = new LibraryDesk();
    Arrays.fill(things, null);
    int range = r.nextBoolean() ? 6 : 40;
    for (int call = 0; call < 200; call++) {
      int o = r.nextInt(8);
      int a = r.nextInt(12) == 0 ? r.nextInt() : r.nextInt(range) - 2;
      int b = r.nextInt(range) - 1;
      if (things[o] == null) {
        make(x, r);
        continue;
      }
      int at = o;
      if (things[o].cursor != null) {
        int op = r.nextInt(10);
        Check.same("move " + op, Check.of(() -> x.move(at, op, a)), Check.of(() -> moved(things[at], op, a)));
      } else if (r.nextInt(12) == 0) {
        int n = free();
        if (n >= 0 && n < 12) {
          view(x, at, a, b);
        }
      } else if (r.nextInt(12) == 0) {
        if (free() >= 0 && free() < 12) {
          cursor(x, at);
        }
      } else {
        int op = r.nextInt(32);
        int bb = op >= 9 && op <= 11 || op == 26 ? r.nextInt(9) : op == 19 && r.nextInt(4) > 0 ? r.nextInt(4) : b;
        int aa = op == 12 && r.nextInt(5) > 0 ? r.nextInt(4) : a;
        String got = Check.of(() -> x.list(at, op, aa, bb));
        Check.same("list " + op + " " + aa + " " + bb, got, Check.of(() -> listed(things[at], op, aa, bb)));
      }
      if (r.nextInt(30) == 0) {
        int gone = 0;
        for (int round = 0; round < 24; round++) {
          for (int i = 0; i < 24; i++) {
            if (things[i] != null && (i == at || things[i].of != null && things[i].of.root == null)) {
              things[i].root = null;
              things[i].of = null;
              things[i] = things[i];
            }
          }
        }
        for (int i = 0; i < 24; i++) {
          if (things[i] != null && things[i].root == null) {
            things[i] = null;
            gone++;
          }
        }
        int n = gone;
        Check.due(() -> x.drop(at), n);
      }
      compare(x);
    }
  }

  private static void make(LibraryDesk x, Random r) {
    int n = free();
    int cap = r.nextInt(14);
    Check.due(() -> x.make(0, cap, 0), n);
    Thing t = new Thing();
    t.root = new Row();
    t.list = t.root;
    t.cap = cap;
    t.seen = t.root.changes();
    things[n] = t;
  }

  private static void view(LibraryDesk x, int at, int a, int b) {
    int n = free();
    Thing of = things[at];
    boolean stale = of.list != of.root && of.stale();
    if (stale) {
      Check.state(() -> x.view(at, 0, a, b));
    } else if (a < 0 || b < a || b > of.list.size()) {
      Check.beyond(() -> x.view(at, 0, a, b));
    } else {
      Check.due(() -> x.view(at, 0, a, b), n);
      Thing t = new Thing();
      t.root = of.root;
      t.list = of.list.subList(a, b);
      t.seen = t.root.changes();
      t.of = of;
      things[n] = t;
    }
  }

  private static void cursor(LibraryDesk x, int at) {
    int n = free();
    Thing of = things[at];
    if (of.list != of.root && of.stale()) {
      Check.state(() -> x.cursor(at));
      return;
    }
    Check.due(() -> x.cursor(at), n);
    Thing t = new Thing();
    t.root = of.root;
    t.list = of.list;
    t.cursor = of.list.listIterator();
    t.seen = t.root.changes();
    t.of = of;
    things[n] = t;
  }

  private static long moved(Thing c, int op, int a) {
    if (op > 8) {
      throw new IllegalArgumentException();
    }
    if (c.stale()) {
      throw new IllegalStateException();
    }
    if (op == 8) {
      throw new UnsupportedOperationException();
    }
    ListIterator<Integer> i = c.cursor;
    switch (op) {
      case 0:
        c.passed = i.next();
        c.passed = 1;
        return c.list.get(i.previousIndex());
      case 1:
        int v = i.previous();
        c.passed = 2;
        return v;
      case 2:
        return i.hasNext() ? 1 : 0;
      case 3:
        return i.hasPrevious() ? 1 : 0;
      case 4:
        return i.nextIndex();
      case 5:
        if (c.passed < 0) {
          throw new IllegalStateException();
        }
        int gone = c.list.get(c.passed == 1 ? i.previousIndex() : i.nextIndex());
        i.remove();
        c.passed = -1;
        c.know();
        return gone;
      case 6:
        if (c.passed < 0) {
          throw new IllegalStateException();
        }
        int was = c.list.get(c.passed == 1 ? i.previousIndex() : i.nextIndex());
        i.set(a);
        return was;
      default:
        i.add(a);
        c.passed = -1;
        root(c).due(c.root.size());
        c.know();
        return c.list.size();
    }
  }

  private static RootCap root(Thing t) {
    return new RootCap(t);
  }

  /** The CAPACITY of the LIST that a Thing is of. */
  private static final class RootCap {
    private final Thing list;

    RootCap(Thing t) {
      Thing l = t;
      while (l.of != null) {
        l = l.of;
      }
      list = l;
    }

    void due(int n) {
      if (n > list.cap) {
        list.cap = Math.max(Math.max(n, list.cap + list.cap / 2), 10);
      }
    }
  }

  private static long listed(Thing t, int op, int a, int b) {
    Thing other = t;
    if (op >= 9 && op <= 11 || op == 26) {
      if (b < 0 || things[b] == null) {
        throw new java.util.NoSuchElementException();
      }
      other = things[b];
      if (other.cursor != null) {
        throw new ClassCastException();
      }
    }
    if (op > 30 || op == 12 && (a < 0 || a > 3) || op == 19 && (b < 0 || b > 3) || op == 28 && (a < -1 || a > 2000)) {
      throw new IllegalArgumentException();
    }
    if (t.list != t.root && t.stale() || other.list != other.root && other.stale()) {
      throw new IllegalStateException();
    }
    if (op >= 27 && op <= 29 && t.list != t.root) {
      throw new UnsupportedOperationException();
    }
    int before = t.root.size();
    List<Integer> l = t.list;
    if ((op == 1 || op == 9) && (a < 0 || a > l.size()) || op >= 2 && op <= 4 && (a < 0 || a >= l.size())
        || op == 16 && (a < 0 || a >= l.size() || b < 0 || b >= l.size()) || op == 30 && (a < 0 || b < a || b > l.size())) {
      throw new IndexOutOfBoundsException();
    }
    long answer = answer(t, op, a, b, new ArrayList<>(other.list));
    if (t.root.size() != before) {
      root(t).due(t.root.size());
      t.know();
    }
    return answer;
  }

  private static long answer(Thing t, int op, int a, int b, List<Integer> other) {
    List<Integer> l = t.list;
    int n = l.size();
    switch (op) {
      case 0:
        l.add(a);
        return l.size();
      case 1:
        l.add(a, b);
        return l.size();
      case 2:
        return l.get(a);
      case 3:
        return l.set(a, b);
      case 4:
        return l.remove(a);
      case 5:
        return l.remove((Integer) a) ? 1 : 0;
      case 6:
        return l.indexOf(a);
      case 7:
        return l.lastIndexOf(a);
      case 8:
        if (n > 0) {
          l.clear();
        }
        return n;
      case 9:
        if (!other.isEmpty()) {
          l.addAll(a, other);
        }
        return other.size();
      case 10:
        l.removeAll(other);
        return n - l.size();
      case 11:
        l.retainAll(other);
        return n - l.size();
      case 12:
        Integer[] sorted = l.toArray(new Integer[0]);
        Arrays.sort(sorted, order(a));
        write(l, Arrays.asList(sorted));
        return n;
      case 13:
        Collections.reverse(l);
        return n;
      case 14:
        Collections.rotate(l, n == 0 ? 0 : (int) ((long) a % n));
        return n;
      case 15:
        int s = a;
        for (int i = n - 1; i >= 1; i--) {
          s = s * 1103515245 + 12345;
          Collections.swap(l, i, (s >>> 8) % (i + 1));
        }
        return n;
      case 16:
        Collections.swap(l, a, b);
        return n;
      case 17:
        Collections.fill(l, a);
        return n;
      case 18:
        int k = Collections.frequency(l, a);
        Collections.replaceAll(l, a, b);
        return k;
      case 19:
        return halving(l, a, order(b));
      case 20:
        return Collections.frequency(l, a);
      case 21:
        return Collections.min(l);
      case 22:
        return Collections.max(l);
      case 23:
        return next(l);
      case 24:
        return n;
      case 25:
        return l.hashCode();
      case 26:
        return new ArrayList<>(l).equals(other) ? 1 : 0;
      case 27:
        return t.cap;
      case 28:
        root(t).due(a);
        return t.cap;
      case 29:
        t.cap = n;
        return n;
      default:
        if (b > a) {
          l.subList(a, b).clear();
        }
        return b - a;
    }
  }

  private static void write(List<Integer> l, List<Integer> v) {
    for (int i = 0; i < v.size(); i++) {
      l.set(i, v.get(i));
    }
  }

  private static long halving(List<Integer> l, int a, Comparator<Integer> c) {
    int from = 0;
    int to = l.size() - 1;
    while (from <= to) {
      int m = (from + to) / 2;
      int k = c.compare(l.get(m), a);
      if (k == 0) {
        return m;
      }
      if (k < 0) {
        from = m + 1;
      } else {
        to = m - 1;
      }
    }
    return -1 - from;
  }

  /** By trying the followers: the least row above this one. */
  private static long next(List<Integer> l) {
    int i = l.size() - 2;
    while (i >= 0 && l.get(i) >= l.get(i + 1)) {
      i--;
    }
    if (i < 0) {
      List<Integer> v = new ArrayList<>(l);
      Collections.sort(v);
      write(l, v);
      return 0;
    }
    List<Integer> tail = new ArrayList<>(l.subList(i, l.size()));
    Collections.sort(tail);
    int head = tail.stream().filter(v -> v > l.get(lastRise(l))).findFirst().get();
    tail.remove((Integer) head);
    l.set(i, head);
    for (int k = 0; k < tail.size(); k++) {
      l.set(i + 1 + k, tail.get(k));
    }
    return 1;
  }

  private static int lastRise(List<Integer> l) {
    int i = l.size() - 2;
    while (i >= 0 && l.get(i) >= l.get(i + 1)) {
      i--;
    }
    return i;
  }

  private static void compare(LibraryDesk x) {
    for (int i = 0; i < 24; i++) {
      Thing t = things[i];
      int o = i;
      if (t == null || t.cursor != null) {
        continue;
      }
      if (t.list != t.root && t.stale()) {
        Check.state(() -> x.list(o, 24, 0, 0));
        Check.state(() -> x.item(o, 0, 0));
        continue;
      }
      Check.due(() -> x.list(o, 24, 0, 0), t.list.size());
      for (int k = 0; k < t.list.size(); k++) {
        int place = k;
        Check.due(() -> x.item(o, place, 0), t.list.get(k));
      }
      if (t.list == t.root) {
        Check.due(() -> x.list(o, 27, 0, 0), t.cap);
      }
    }
  }

  private static void capacities() {
    LibraryDesk x = new LibraryDesk();
    x.make(0, 0, 0);
    Check.due(() -> x.list(0, 27, 0, 0), 0);
    x.list(0, 0, 5, 0);
    Check.due(() -> x.list(0, 27, 0, 0), 10);
    Check.due(() -> x.list(0, 28, 11, 0), 15);
    Check.due(() -> x.list(0, 28, 40, 0), 40);
    Check.due(() -> x.list(0, 28, -1, 0), 40);
    Check.due(() -> x.list(0, 28, 2000, 0), 2000);
    Check.illegal(() -> x.list(0, 28, 2001, 0));
    Check.illegal(() -> x.list(0, 28, -2, 0));
    Check.due(() -> x.list(0, 29, 0, 0), 1);
    Check.due(() -> x.list(0, 9, 0, 0), 1);
    Check.due(() -> x.list(0, 27, 0, 0), 10);
    Check.due(() -> x.list(0, 24, 0, 0), 2);
    for (int i = 0; i < 4; i++) {
      x.list(0, 9, 0, 0);
    }
    Check.due(() -> x.list(0, 27, 0, 0), 32);
    x.list(0, 0, 1, 0);
    Check.due(() -> x.list(0, 27, 0, 0), 48);
  }

  private static void edges() {
    LibraryDesk x = new LibraryDesk();
    x.make(0, 0, 0);
    x.list(0, 0, 1, 0);
    for (int i = 0; i < 9; i++) {
      x.list(0, 9, 0, 0);
    }
    Check.due(() -> x.list(0, 24, 0, 0), 512);
    x.make(0, 0, 0);
    x.list(1, 9, 0, 0);
    for (int i = 0; i < 2; i++) {
      x.list(0, 9, 512, 1);
    }
    Check.due(() -> x.list(0, 24, 0, 0), 1536);
    Check.state(() -> x.list(0, 9, 0, 1));
    Check.due(() -> x.list(0, 24, 0, 0), 1536);
    Check.beyond(() -> x.list(0, 9, 1537, 1));
    x.list(1, 30, 464, 512);
    Check.due(() -> x.list(0, 9, 3, 1), 464);
    Check.state(() -> x.list(0, 0, 1, 0));
    Check.state(() -> x.list(0, 1, 2000, 0));
    Check.beyond(() -> x.list(0, 1, 2001, 0));
    Check.due(() -> x.view(0, 0, 5, 5), 2);
    Check.state(() -> x.list(2, 0, 1, 0));
    Check.due(() -> x.cursor(2), 3);
    Check.state(() -> x.move(3, 7, 1));
    x.make(0, 0, 0);
    Check.none(() -> x.list(4, 21, 0, 0));
    Check.none(() -> x.list(4, 22, 0, 0));
    Check.due(() -> x.list(4, 23, 0, 0), 0);
    Check.due(() -> x.list(4, 14, 5, 0), 0);
    x.list(4, 0, Integer.MIN_VALUE, 0);
    x.list(4, 0, 3, 0);
    x.list(4, 0, -3, 0);
    Check.due(() -> x.list(4, 12, 2, 0), 3);
    Check.due(() -> x.item(4, 0, 0), -3);
    Check.due(() -> x.item(4, 2, 0), Integer.MIN_VALUE);
    Check.due(() -> x.list(4, 19, 3, 2), 1);
    Check.due(() -> x.list(4, 19, 4, 2), -3);
  }

  private static void rings() {
    Random r = Check.random(9);
    for (int game = 0; game < 400; game++) {
      LibraryDesk x = new LibraryDesk();
      int a0 = r.nextInt(30);
      x.make(1, a0, 0);
      List<Integer> l = new ArrayList<>();
      int cap = 8;
      while (cap <= a0) {
        cap *= 2;
      }
      for (int call = 0; call < 100; call++) {
        int drawn = r.nextInt(3) > 0 ? r.nextInt(2) : r.nextInt(17) - 1;
        int op = drawn == 7 ? 6 : drawn;
        int a = r.nextInt(20) == 0 ? r.nextInt() : r.nextInt(9) - 2;
        String got = Check.of(() -> x.ring(0, op, a));
        Check.same("ring " + op + " " + a, got, Check.of(() -> ringed(l, op, a)));
        if (op < 2 && op >= 0 && l.size() == cap) {
          cap *= 2;
        }
        Check.due(() -> x.ring(0, 7, 0), cap);
        for (int k = -1; k <= l.size(); k++) {
          int place = k;
          if (k < 0 || k == l.size()) {
            Check.beyond(() -> x.item(0, place, 0));
          } else {
            Check.due(() -> x.item(0, place, 0), l.get(k));
          }
        }
      }
    }
    LibraryDesk x = new LibraryDesk();
    x.make(1, 1000, 0);
    Check.due(() -> x.ring(0, 7, 0), 1024);
    for (int i = 1; i <= 2000; i++) {
      int n = i;
      Check.due(() -> x.ring(0, n % 2, n), n);
    }
    Check.due(() -> x.ring(0, 7, 0), 2048);
    Check.state(() -> x.ring(0, 0, 1));
    Check.state(() -> x.ring(0, 1, 1));
    Check.due(() -> x.ring(0, 12, 1), 2000);
    Check.due(() -> x.ring(0, 7, 0), 2048);
  }

  private static long ringed(List<Integer> l, int op, int a) {
    int n = l.size();
    if (op < 0 || op > 14) {
      throw new IllegalArgumentException();
    }
    if (op >= 2 && op <= 5 && n == 0) {
      throw new java.util.NoSuchElementException();
    }
    switch (op) {
      case 0:
        l.add(0, a);
        return l.size();
      case 1:
        l.add(a);
        return l.size();
      case 2:
        return l.remove(0);
      case 3:
        return l.remove(n - 1);
      case 4:
        return l.get(0);
      case 5:
        return l.get(n - 1);
      case 6:
        return n;
      case 8:
        return l.remove((Integer) a) ? 1 : 0;
      case 9:
        int last = l.lastIndexOf(a);
        if (last >= 0) {
          l.remove(last);
        }
        return last >= 0 ? 1 : 0;
      case 10:
        return l.indexOf(a);
      case 11:
        if (a < 0 || a >= n) {
          throw new IndexOutOfBoundsException();
        }
        return l.get(a);
      case 12:
        l.clear();
        return n;
      case 13:
        for (int i = 0; n > 0 && i < Math.abs((long) a) % n; i++) {
          if (a > 0) {
            l.add(l.remove(0));
          } else {
            l.add(0, l.remove(n - 1));
          }
        }
        return n;
      default:
        return l.hashCode();
    }
  }

  private static void wrong() {
    LibraryDesk x = new LibraryDesk();
    x.make(1, 0, 0);
    x.make(0, 0, 0);
    Check.cast(() -> x.list(0, 24, 0, 0));
    Check.cast(() -> x.list(1, 9, 0, 0));
    Check.none(() -> x.list(1, 9, 0, 7));
    Check.none(() -> x.list(0, 9, 0, 7));
    Check.due(() -> x.list(1, 24, 0, 7), 0);
    Check.cast(() -> x.ring(1, 6, 0));
    Check.none(() -> x.ring(2, 99, 0));
    Check.cast(() -> x.ring(1, 99, 0));
    Check.illegal(() -> x.ring(0, 15, 0));
    Check.illegal(() -> x.ring(0, -1, 0));
    Check.cast(() -> x.list(0, 99, 0, 0));
    Check.none(() -> x.list(-1, 99, 0, 0));
    Check.illegal(() -> x.list(1, -1, 0, 0));
    Check.illegal(() -> x.list(1, 31, 0, 0));
    Check.due(() -> x.view(1, 0, 0, 0), 2);
    Check.unsupported(() -> x.list(2, 27, 0, 0));
    Check.unsupported(() -> x.list(2, 29, 0, 0));
    Check.illegal(() -> x.list(2, 28, -2, 0));
    x.list(1, 0, 4, 0);
    Check.illegal(() -> x.list(2, 28, -2, 0));
    Check.illegal(() -> x.list(2, 12, 4, 0));
    Check.state(() -> x.list(2, 27, 0, 0));
    Check.state(() -> x.list(1, 26, 0, 2));
    Check.state(() -> x.list(1, 9, 99, 2));
    Check.state(() -> x.view(2, 0, 5, 1));
    Check.illegal(() -> x.view(2, 1, 5, 1));
    Check.illegal(() -> x.view(1, 4, 0, 0));
    Check.illegal(() -> x.view(1, -1, 0, 0));
    Check.cast(() -> x.view(0, 9, 0, 0));
    Check.cast(() -> x.cursor(0));
    Check.none(() -> x.view(9, 9, 0, 0));
    Check.none(() -> x.cursor(9));
    Check.none(() -> x.move(9, 0, 0));
    Check.cast(() -> x.move(1, 9, 0));
    Check.due(() -> x.cursor(1), 3);
    Check.illegal(() -> x.move(3, 9, 0));
    Check.illegal(() -> x.move(3, -1, 0));
    Check.unsupported(() -> x.move(3, 8, 0));
    Check.cast(() -> x.cursor(3));
    x.list(1, 0, 4, 0);
    for (int op = 0; op < 9; op++) {
      int k = op;
      Check.state(() -> x.move(3, k, 0));
    }
  }
}
