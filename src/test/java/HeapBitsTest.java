import java.util.ArrayList;
import java.util.BitSet;
import java.util.List;
import java.util.Random;

/** Promise 7. */
public final class HeapBitsTest {
  public static void main(String[] args) {
    for (int seed = 0; seed < 500; seed++) {
      heaps(Check.random(seed));
      bits(Check.random(seed));
    }
    heapEdges();
    bitEdges();
    Check.end("HeapBitsTest");
  }

  private static int first(List<Integer> l, int order) {
    int best = 0;
    for (int i = 1; i < l.size(); i++) {
      if (ListTest.order(order).compare(l.get(i), l.get(best)) < 0) {
        best = i;
      }
    }
    return best;
  }

  private static void heaps(Random r) {
    LibraryDesk x = new LibraryDesk();
    int order = r.nextInt(4);
    int first = 1 + r.nextInt(80);
    x.make(5, first, order);
    x.make(0, 0, 0);
    for (int i = 0; i < 7; i++) {
      x.list(1, 0, r.nextInt(40) - 20, 0);
    }
    x.view(1, 0, 2, 5);
    List<Integer> l = new ArrayList<>();
    int cap = first;
    for (int call = 0; call < 150; call++) {
      int op = r.nextInt(2) == 0 ? 0 : r.nextInt(10) - 1;
      int a = op == 7 ? r.nextInt(4) : r.nextInt(40) - 20;
      String want;
      if (op == 7 && a == 3) {
        want = "throws.NoSuchElementException";
      } else if (op == 7 && a == 0) {
        want = "throws.ClassCastException";
      } else if (op < 0 || op > 7) {
        want = "throws.IllegalArgumentException";
      } else if ((op == 1 || op == 2) && l.isEmpty()) {
        want = "throws.NoSuchElementException";
      } else if (op == 0 || op == 7) {
        if (op == 0) {
          l.add(a);
        } else {
          for (int i = a == 1 ? 0 : 2; i < (a == 1 ? 7 : 5); i++) {
            l.add((int) x.item(1, i, 0));
          }
        }
        if (l.size() > cap) {
          cap = Math.max(l.size(), cap < 64 ? cap * 2 + 2 : cap + cap / 2);
        }
        want = "" + l.size();
      } else if (op == 3) {
        want = l.remove((Integer) a) ? "1" : "0";
      } else if (op == 6) {
        want = "" + l.size();
        l.clear();
      } else {
        want = "" + (op == 1 ? l.remove(first(l, order)) : op == 2 ? l.get(first(l, order))
            : op == 4 ? l.size() : cap);
      }
      Check.same("heap " + op, Check.of(() -> x.heap(0, op, a)), want);
      int c = cap;
      Check.due(() -> x.heap(0, 5, 0), c);
    }
  }

  private static void heapEdges() {
    LibraryDesk x = new LibraryDesk();
    x.make(5, 1, 3);
    for (int v : new int[] {13, 23, 3, 12}) {
      x.heap(0, 0, v);
    }
    Check.due(() -> x.heap(0, 1, 0), 12);
    Check.due(() -> x.heap(0, 1, 0), 13);
    Check.due(() -> x.heap(0, 0, 13), 3);
    Check.due(() -> x.heap(0, 3, 33), 0);
    Check.due(() -> x.heap(0, 1, 0), 23);
    Check.due(() -> x.heap(0, 1, 0), 3);
    Check.due(() -> x.heap(0, 6, 0), 1);
    x.make(0, 0, 0);
    x.list(1, 0, 1, 0);
    for (int i = 0; i < 10; i++) {
      x.list(1, 9, 0, 1);
    }
    Check.due(() -> x.heap(0, 7, 1), 1024);
    Check.state(() -> x.heap(0, 7, 1));
    x.view(1, 0, 0, 976);
    Check.due(() -> x.heap(0, 7, 2), 2000);
    Check.state(() -> x.heap(0, 0, 1));
    Check.due(() -> x.heap(0, 4, 1), 2000);
    x.list(1, 0, 1, 0);
    Check.state(() -> x.heap(0, 7, 2));
    x.heap(0, 6, 0);
    Check.state(() -> x.heap(0, 7, 2));
    Check.cast(() -> x.heap(1, 99, 0));
    Check.cast(() -> x.heap(1, 7, 0));
    Check.none(() -> x.heap(1, 7, 20));
    Check.none(() -> x.heap(20, 99, 0));
    Check.illegal(() -> x.heap(0, 8, 0));
    Check.illegal(() -> x.heap(0, -1, 0));
  }

  private static void bits(Random r) {
    LibraryDesk x = new LibraryDesk();
    BitSet[] sets = {new BitSet(), new BitSet()};
    x.make(6, 0, 0);
    x.make(6, 0, 0);
    int range = r.nextBoolean() ? 4096 : 140;
    for (int call = 0; call < 100; call++) {
      int o = r.nextInt(2);
      int op = r.nextInt(20);
      int a = op == 19 ? r.nextInt(64) : r.nextInt(range);
      int b = op >= 13 && op <= 18 ? r.nextInt(2) : op <= 5 && op >= 3 ? a + r.nextInt(range - a + 1) : r.nextInt();
      long want = bitsDue(sets[o], op, a, b, sets[b & 1]);
      Check.due("bits " + op, () -> x.bits(o, op, a, b), want);
    }
  }

  private static long bitsDue(BitSet s, int op, int a, int b, BitSet other) {
    boolean was = s.get(a);
    switch (op) {
      case 0:
        s.set(a);
        return was ? 1 : 0;
      case 1:
        s.clear(a);
        return was ? 1 : 0;
      case 2:
        s.flip(a);
        return was ? 1 : 0;
      case 3:
        s.set(a, b);
        return s.cardinality();
      case 4:
        s.clear(a, b);
        return s.cardinality();
      case 5:
        s.flip(a, b);
        return s.cardinality();
      case 6:
        return was ? 1 : 0;
      case 7:
        return s.nextSetBit(a);
      case 8:
        return s.nextClearBit(a);
      case 9:
        return s.previousSetBit(a);
      case 10:
        return s.previousClearBit(a);
      case 11:
        return s.cardinality();
      case 12:
        return s.length();
      case 13:
        s.and(other);
        return s.cardinality();
      case 14:
        s.or(other);
        return s.cardinality();
      case 15:
        if (s == other) {
          s.clear();
        } else {
          s.xor(other);
        }
        return s.cardinality();
      case 16:
        s.andNot(s == other ? (BitSet) other.clone() : other);
        return s.cardinality();
      case 17:
        return s.intersects(other) ? 1 : 0;
      case 18:
        return s.equals(other) ? 1 : 0;
      default:
        long w = 0;
        for (int i = 0; i < 64; i++) {
          w |= s.get(64 * a + i) ? 1L << i : 0;
        }
        return w;
    }
  }

  private static void bitEdges() {
    LibraryDesk x = new LibraryDesk();
    x.make(6, 0, 0);
    x.make(7, 0, 0);
    for (int op : new int[] {0, 1, 2, 6, 7, 8, 9, 10}) {
      Check.beyond(() -> x.bits(0, op, -1, 0));
      Check.beyond(() -> x.bits(0, op, Integer.MIN_VALUE, 0));
      Check.illegal(() -> x.bits(0, op, 4096, 0));
      Check.due(() -> x.bits(0, op, 4095, 0), op == 1 ? 1 : op == 7 ? -1 : op == 8 ? 4095 : op == 10 ? 4095 : op == 6 ? 1 : op == 9 ? 4095 : 0);
      if (op == 6) {
        x.bits(0, 1, 4095, 0);
      }
      if (op == 8) {
        x.bits(0, 0, 4095, 0);
      }
      if (op == 9) {
        x.bits(0, 1, 4095, 0);
      }
    }
    for (int op : new int[] {3, 4, 5}) {
      Check.beyond(() -> x.bits(0, op, -1, 5));
      Check.beyond(() -> x.bits(0, op, 5, 4));
      Check.beyond(() -> x.bits(0, op, 5, 4097));
      Check.due(() -> x.bits(0, op, 4096, 4096), 0);
      Check.due(() -> x.bits(0, op, 0, 4096), op == 4 ? 0 : 4096);
      x.bits(0, 4, 0, 4096);
    }
    x.bits(0, 3, 0, 4096);
    Check.due(() -> x.bits(0, 8, 0, 0), 4096);
    Check.due(() -> x.bits(0, 10, 4095, 0), -1);
    Check.due(() -> x.bits(0, 12, 0, 0), 4096);
    Check.due(() -> x.bits(0, 19, 63, 0), -1);
    Check.illegal(() -> x.bits(0, 19, 64, 0));
    Check.illegal(() -> x.bits(0, 19, -1, 0));
    Check.illegal(() -> x.bits(0, 20, 0, 0));
    Check.illegal(() -> x.bits(0, -1, 0, 0));
    Check.cast(() -> x.bits(1, 99, 0, 0));
    Check.cast(() -> x.bits(0, 13, 0, 1));
    Check.none(() -> x.bits(0, 18, 0, 2));
    Check.none(() -> x.bits(1, 18, 0, 2));
    Check.none(() -> x.bits(3, 99, 0, 2));
  }
}
