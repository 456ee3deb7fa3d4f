/** The edges that the document names of RINGS, HEAPS, BITS and item (promises 4, 7 and 8). */
public final class EdgeRingTest {
  private static final int LOW = Integer.MIN_VALUE;
  private static final int HIGH = Integer.MAX_VALUE;

  public static void main(String[] args) {
    ringCapacities();
    ringsAreFull();
    ringsAreEmpty();
    ringPlaces();
    ringsTurn();
    ringElements();
    heapCapacities();
    heapsAreFull();
    heapsAreEmpty();
    heapsTakeAll();
    heapOrders();
    bitNumbers();
    bitParts();
    bitsNearest();
    bitsOfTwo();
    bitWords();
    items();
    Check.end("EdgeRingTest");
  }

  private static LibraryDesk ring(int a, int... elements) {
    LibraryDesk x = new LibraryDesk();
    x.make(1, a, 0);
    for (int e : elements) {
      x.ring(0, 1, e);
    }
    return x;
  }

  /** "CAPACITY: the least power of 2 above a, at least 8; twice that as soon as size is the same." */
  private static void ringCapacities() {
    int[][] caps = {{0, 8}, {1, 8}, {7, 8}, {8, 16}, {9, 16}, {15, 16}, {16, 32}, {31, 32}, {32, 64}, {511, 512}, {512, 1024}, {1000, 1024}};
    for (int[] c : caps) {
      LibraryDesk x = ring(c[0]);
      Check.still(x, () -> x.ring(0, 7, 0), c[1]);
    }
    for (int end = 0; end < 2; end++) {
      int op = end;
      LibraryDesk x = ring(0);
      for (int i = 1; i <= 33; i++) {
        int size = i;
        Check.due(() -> x.ring(0, op, 5), size);
        Check.due("CAPACITY with " + i, () -> x.ring(0, 7, 0), i < 8 ? 8 : i < 16 ? 16 : i < 32 ? 32 : 64);
      }
      Check.due(() -> x.ring(0, 12, 0), 33);
      Check.due(() -> x.ring(0, 7, 0), 64);
    }
    LibraryDesk y = ring(7, 1, 2, 3, 4, 5, 6, 7);
    y.ring(0, 2, 0);
    y.ring(0, 1, 8);
    Check.due(() -> y.ring(0, 7, 0), 8);
    y.ring(0, 0, 9);
    Check.due(() -> y.ring(0, 7, 0), 16);
  }

  /** RING: "at most 2000" (full). */
  private static void ringsAreFull() {
    LibraryDesk x = ring(1000);
    for (int i = 1; i <= 2000; i++) {
      x.ring(0, i & 1, i);
      if (i == 1023 || i == 1024) {
        Check.due(() -> x.ring(0, 7, 0), i == 1023 ? 1024 : 2048);
      }
    }
    Check.due(() -> x.ring(0, 6, 0), 2000);
    Check.due(() -> x.ring(0, 7, 0), 2048);
    Check.state(x, () -> x.ring(0, 0, 5));
    Check.state(x, () -> x.ring(0, 1, 5));
    Check.due(() -> x.ring(0, 11, 1999), 1999);
    Check.beyond(x, () -> x.ring(0, 11, 2000));
    Check.due(() -> x.ring(0, 3, 0), 1999);
    Check.due(() -> x.ring(0, 0, 5), 2000);
    Check.state(x, () -> x.ring(0, 1, 5));
    Check.due(() -> x.ring(0, 2, 0), 5);
    Check.due(() -> x.ring(0, 1, 6), 2000);
  }

  /** "2, 3: that at the front, back goes; 4, 5: that there (empty)". */
  private static void ringsAreEmpty() {
    LibraryDesk x = ring(0);
    for (int turn = 0; turn < 2; turn++) {
      for (int op = 2; op <= 5; op++) {
        int k = op;
        Check.none(x, () -> x.ring(0, k, 0));
      }
      for (int op : new int[] {6, 8, 9, 12, 13}) {
        Check.still(x, () -> x.ring(0, op, 3), 0);
      }
      Check.still(x, () -> x.ring(0, 10, 3), -1);
      Check.still(x, () -> x.ring(0, 14, 3), 1);
      Check.beyond(x, () -> x.ring(0, 11, 0));
      x.ring(0, turn, 3);
      x.ring(0, 2 + turn, 3);
    }
    x.ring(0, 0, 3);
    for (int op = 4; op <= 5; op++) {
      int k = op;
      Check.still(x, () -> x.ring(0, k, 0), 3);
    }
    Check.due(() -> x.ring(0, 3, 0), 3);
    Check.none(x, () -> x.ring(0, 4, 0));
  }

  /** 11: "what is at place a (beyond)". */
  private static void ringPlaces() {
    LibraryDesk x = ring(0, 4, 5, 6);
    for (int place : new int[] {-1, 3, 8, LOW, HIGH}) {
      Check.beyond(x, () -> x.ring(0, 11, place));
    }
    Check.still(x, () -> x.ring(0, 11, 0), 4);
    Check.still(x, () -> x.ring(0, 11, 2), 6);
  }

  /** 13: "a times the front goes to the back (below 0: the back to the front)". */
  private static void ringsTurn() {
    int[][] turns = {{0, 1, 2, 3}, {1, 2, 3, 1}, {2, 3, 1, 2}, {3, 1, 2, 3}, {4, 2, 3, 1}, {-1, 3, 1, 2}, {-3, 1, 2, 3}, {-4, 3, 1, 2}, {HIGH, 2, 3, 1}, {LOW, 2, 3, 1}};
    for (int[] t : turns) {
      LibraryDesk x = ring(0, 1, 2, 3);
      Check.due(() -> x.ring(0, 13, t[0]), 3);
      Check.holds(x, 0, t[1], t[2], t[3]);
    }
    LibraryDesk y = ring(0, 9);
    Check.still(y, () -> y.ring(0, 13, LOW), 1);
  }

  /** 8 .. 10: of those alike the first, the last; 14 "as list 25". */
  private static void ringElements() {
    LibraryDesk x = ring(0, 5, 6, 5, 6, 5);
    Check.still(x, () -> x.ring(0, 8, 7), 0);
    Check.still(x, () -> x.ring(0, 9, 7), 0);
    Check.still(x, () -> x.ring(0, 10, 7), -1);
    Check.still(x, () -> x.ring(0, 10, 5), 0);
    Check.due(() -> x.ring(0, 8, 5), 1);
    Check.holds(x, 0, 6, 5, 6, 5);
    Check.due(() -> x.ring(0, 9, 6), 1);
    Check.holds(x, 0, 6, 5, 5);
    Check.due(() -> x.ring(0, 9, 6), 1);
    Check.holds(x, 0, 5, 5);
    LibraryDesk y = ring(0, HIGH, LOW);
    Check.due(() -> y.ring(0, 14, 0), (int) (31L * (int) (31L + HIGH) + LOW));
    Check.due(() -> y.ring(0, 12, 0), 2);
    Check.due(() -> y.ring(0, 6, 0), 0);
  }

  private static void heapCapacity(int first, int come, int want) {
    LibraryDesk x = new LibraryDesk();
    x.make(5, first, 0);
    for (int i = 0; i < come; i++) {
      x.heap(0, 0, i);
    }
    Check.due("CAPACITY " + first + " with " + come, () -> x.heap(0, 5, 0), want);
  }

  /** "the greater of what is due and (if it is below 64) 2 more than twice itself, else itself and a half more (cut)". */
  private static void heapCapacities() {
    heapCapacity(1, 0, 1);
    heapCapacity(1, 1, 1);
    heapCapacity(1, 2, 4);
    heapCapacity(1, 4, 4);
    heapCapacity(1, 5, 10);
    heapCapacity(10, 11, 22);
    heapCapacity(63, 63, 63);
    heapCapacity(63, 64, 128);
    heapCapacity(64, 64, 64);
    heapCapacity(64, 65, 96);
    heapCapacity(65, 66, 97);
    heapCapacity(1000, 1000, 1000);
    heapCapacity(1000, 1001, 1500);
    int[][] all = {{1, 4, 4}, {1, 5, 5}, {2, 6, 6}, {2, 7, 7}, {2, 5, 6}, {63, 128, 128}, {63, 129, 129}, {64, 96, 96}, {64, 97, 97}, {64, 95, 96}, {100, 100, 100}, {100, 101, 150}};
    for (int[] a : all) {
      LibraryDesk x = new LibraryDesk();
      x.make(5, a[0], 0);
      x.make(0, 0, 0);
      Check.fill(x, 1, a[1]);
      Check.due(() -> x.heap(0, 7, 1), a[1]);
      Check.due("CAPACITY " + a[0] + " with all " + a[1], () -> x.heap(0, 5, 0), a[2]);
      x.heap(0, 6, 0);
      Check.due(() -> x.heap(0, 5, 0), a[2]);
    }
  }

  /** HEAP: "at most 2000" (full), "all due at once". */
  private static void heapsAreFull() {
    LibraryDesk x = new LibraryDesk();
    x.make(5, 1000, 0);
    x.make(0, 0, 0);
    Check.fill(x, 1, 1990);
    x.heap(0, 7, 1);
    x.list(1, 30, 0, 1979);
    Check.due(() -> x.list(1, 24, 0, 0), 11);
    Check.state(x, () -> x.heap(0, 7, 1));
    x.view(1, 0, 1, 11);
    x.view(1, 0, 3, 3);
    Check.due(() -> x.heap(0, 7, 2), 2000);
    Check.still(x, () -> x.heap(0, 7, 3), 2000);
    Check.state(x, () -> x.heap(0, 7, 2));
    Check.state(x, () -> x.heap(0, 0, 5));
    Check.due(() -> x.heap(0, 3, 7), 1);
    Check.due(() -> x.heap(0, 0, 5), 2000);
    Check.state(x, () -> x.heap(0, 0, LOW));
    Check.due(() -> x.heap(0, 1, 0), 5);
    Check.due(() -> x.heap(0, 4, 0), 1999);
  }

  /** "1: the first in ORDER goes ..; 2: it (empty)". */
  private static void heapsAreEmpty() {
    LibraryDesk x = new LibraryDesk();
    x.make(5, 1, 0);
    x.make(0, 0, 0);
    Check.none(x, () -> x.heap(0, 1, 0));
    Check.none(x, () -> x.heap(0, 2, 0));
    for (int op : new int[] {3, 4, 6}) {
      Check.still(x, () -> x.heap(0, op, 0), 0);
    }
    Check.still(x, () -> x.heap(0, 7, 1), 0);
    Check.still(x, () -> x.heap(0, 5, 0), 1);
    x.heap(0, 0, 9);
    Check.still(x, () -> x.heap(0, 2, 0), 9);
    Check.due(() -> x.heap(0, 1, 0), 9);
    Check.none(x, () -> x.heap(0, 2, 0));
    Check.none(x, () -> x.heap(0, 1, 0));
  }

  /** 7: "all of LIST or VIEW a come", which stays as it is. */
  private static void heapsTakeAll() {
    LibraryDesk x = Check.row(13, 23, 3, 12);
    x.view(0, 0, 1, 3);
    x.make(5, 1, 3);
    Check.due(() -> x.heap(2, 7, 1), 2);
    Check.due(() -> x.heap(2, 7, 0), 6);
    Check.holds(x, 0, 13, 23, 3, 12);
    for (int want : new int[] {12, 23, 3, 13, 23, 3}) {
      Check.still(x, () -> x.heap(2, 2, 0), want);
      Check.due(() -> x.heap(2, 1, 0), want);
    }
    Check.none(x, () -> x.heap(2, 7, -1));
    Check.none(x, () -> x.heap(2, 7, 24));
    Check.cast(x, () -> x.heap(2, 7, 2));
  }

  /** HEAP: "of those alike the one that came first", in each ORDER; 3: "an a goes, the one that came first". */
  private static void heapOrders() {
    int[][] rows = {{0, LOW, -1, 0, 1, HIGH}, {1, HIGH, 1, 0, -1, LOW}, {2, 0, -1, 1, HIGH, LOW}, {3, 0, 1, LOW, HIGH, -1}};
    for (int[] r : rows) {
      LibraryDesk x = new LibraryDesk();
      x.make(5, 1, r[0]);
      for (int v : new int[] {1, HIGH, -1, LOW, 0}) {
        x.heap(0, 0, v);
      }
      for (int i = 1; i <= 5; i++) {
        Check.due("ORDER " + r[0], () -> x.heap(0, 1, 0), r[i]);
      }
    }
    LibraryDesk x = new LibraryDesk();
    x.make(5, 1, 3);
    for (int v : new int[] {5, 15, 5, 25}) {
      x.heap(0, 0, v);
    }
    Check.still(x, () -> x.heap(0, 3, 35), 0);
    Check.due(() -> x.heap(0, 3, 5), 1);
    for (int want : new int[] {15, 5, 25}) {
      Check.due(() -> x.heap(0, 1, 0), want);
    }
  }

  private static LibraryDesk bits(int... numbers) {
    LibraryDesk x = new LibraryDesk();
    x.make(6, 0, 0);
    x.make(6, 0, 0);
    for (int n : numbers) {
      x.bits(0, 0, n, 0);
    }
    return x;
  }

  /** "numbers 0 .. 4095"; "(-: beyond; above 4095: IllegalArgumentException, also for 6 .. 10)". */
  private static void bitNumbers() {
    LibraryDesk x = bits(3);
    for (int op : new int[] {0, 1, 2, 6, 7, 8, 9, 10}) {
      Check.beyond(x, () -> x.bits(0, op, -1, 0));
      Check.beyond(x, () -> x.bits(0, op, LOW, 0));
      Check.illegal(x, () -> x.bits(0, op, 4096, 0));
      Check.illegal(x, () -> x.bits(0, op, HIGH, 0));
    }
    for (int n : new int[] {0, 63, 64, 4095}) {
      Check.due(() -> x.bits(0, 0, n, 0), 0);
      Check.still(x, () -> x.bits(0, 0, n, 0), 1);
      Check.still(x, () -> x.bits(0, 6, n, 0), 1);
      Check.due(() -> x.bits(0, 1, n, 0), 1);
      Check.still(x, () -> x.bits(0, 1, n, 0), 0);
      Check.due(() -> x.bits(0, 2, n, 0), 0);
      Check.due(() -> x.bits(0, 2, n, 0), 1);
      Check.still(x, () -> x.bits(0, 6, n, 0), 0);
    }
    Check.due(() -> x.bits(0, 11, 0, 0), 1);
  }

  /** 3, 4, 5: "a .. b - 1 (0 <= a <= b <= 4096, else beyond): how many are in". */
  private static void bitParts() {
    LibraryDesk x = bits(7, 4095);
    int[][] bad = {{-1, 0}, {-1, 5}, {5, 4}, {0, 4097}, {4097, 4097}, {4096, 4095}, {LOW, 0}, {0, HIGH}, {HIGH, HIGH}, {0, -1}};
    for (int op = 3; op <= 5; op++) {
      int k = op;
      for (int[] p : bad) {
        Check.beyond(x, () -> x.bits(0, k, p[0], p[1]));
      }
      Check.still(x, () -> x.bits(0, k, 0, 0), 2);
      Check.still(x, () -> x.bits(0, k, 4096, 4096), 2);
      Check.still(x, () -> x.bits(0, k, 7, 7), 2);
    }
    Check.due(() -> x.bits(0, 3, 0, 1), 3);
    Check.due(() -> x.bits(0, 5, 4095, 4096), 2);
    Check.due(() -> x.bits(0, 5, 0, 4096), 4094);
    Check.still(x, () -> x.bits(0, 6, 4095, 0), 1);
    Check.due(() -> x.bits(0, 4, 1, 4095), 1);
    Check.due(() -> x.bits(0, 4, 0, 4096), 0);
    Check.due(() -> x.bits(0, 3, 0, 4096), 4096);
    Check.still(x, () -> x.bits(0, 3, 63, 65), 4096);
    Check.due(() -> x.bits(0, 4, 63, 65), 4094);
  }

  /** 7 .. 10: "the first from a on that is in (-1 without), out (4096); the last up to a that is in, out (-1)"; 12: "one more than the greatest (0)". */
  private static void bitsNearest() {
    LibraryDesk x = bits();
    Check.still(x, () -> x.bits(0, 7, 0, 0), -1);
    Check.still(x, () -> x.bits(0, 9, 4095, 0), -1);
    Check.still(x, () -> x.bits(0, 12, 0, 0), 0);
    Check.still(x, () -> x.bits(0, 8, 4095, 0), 4095);
    Check.still(x, () -> x.bits(0, 10, 0, 0), 0);
    x.bits(0, 0, 0, 0);
    Check.still(x, () -> x.bits(0, 12, 0, 0), 1);
    Check.still(x, () -> x.bits(0, 7, 0, 0), 0);
    Check.still(x, () -> x.bits(0, 7, 1, 0), -1);
    Check.still(x, () -> x.bits(0, 10, 0, 0), -1);
    x.bits(0, 0, 4095, 0);
    Check.still(x, () -> x.bits(0, 12, 0, 0), 4096);
    Check.still(x, () -> x.bits(0, 7, 1, 0), 4095);
    Check.still(x, () -> x.bits(0, 9, 4094, 0), 0);
    Check.still(x, () -> x.bits(0, 9, 4095, 0), 4095);
    Check.still(x, () -> x.bits(0, 8, 4095, 0), 4096);
    Check.still(x, () -> x.bits(0, 8, 0, 0), 1);
    Check.still(x, () -> x.bits(0, 10, 4095, 0), 4094);
    x.bits(0, 3, 0, 4096);
    Check.still(x, () -> x.bits(0, 8, 0, 0), 4096);
    Check.still(x, () -> x.bits(0, 10, 4095, 0), -1);
  }

  /** 13 .. 18 of two BITS, of one and itself, of empty ones. */
  private static void bitsOfTwo() {
    int[][] counts = {{13, 1, 2, 0}, {14, 3, 2, 2}, {15, 2, 0, 2}, {16, 1, 0, 2}};
    for (int[] c : counts) {
      LibraryDesk x = bits(0, 4095);
      x.bits(1, 0, 4095, 0);
      x.bits(1, 0, 64, 0);
      Check.due("bits " + c[0], () -> x.bits(0, c[0], 0, 1), c[1]);
      Check.due(() -> x.bits(1, 11, 0, 0), 2);
      Check.due("bits " + c[0] + " of itself", () -> x.bits(1, c[0], 0, 1), c[2]);
      LibraryDesk y = bits(0, 4095);
      Check.due(() -> y.bits(0, c[0], 0, 1), c[3]);
    }
    LibraryDesk x = bits(0);
    Check.still(x, () -> x.bits(0, 17, 0, 1), 0);
    Check.still(x, () -> x.bits(0, 18, 0, 1), 0);
    Check.still(x, () -> x.bits(1, 17, 0, 1), 0);
    Check.still(x, () -> x.bits(1, 18, 0, 1), 1);
    Check.still(x, () -> x.bits(0, 17, 0, 0), 1);
    x.bits(1, 0, 0, 0);
    Check.still(x, () -> x.bits(0, 18, 0, 1), 1);
    x.bits(1, 0, 4095, 0);
    Check.still(x, () -> x.bits(0, 18, 0, 1), 0);
    Check.still(x, () -> x.bits(0, 17, 0, 1), 1);
  }

  /** 19: "the 64 from 64 a on (a 0 .. 63), the least lowest". */
  private static void bitWords() {
    LibraryDesk x = bits(0, 63, 64, 4094);
    Check.still(x, () -> x.bits(0, 19, 0, 0), Long.MIN_VALUE | 1);
    Check.still(x, () -> x.bits(0, 19, 1, 0), 1);
    Check.still(x, () -> x.bits(0, 19, 2, 0), 0);
    Check.still(x, () -> x.bits(0, 19, 63, 0), 1L << 62);
    for (int a : new int[] {-1, 64, LOW, HIGH}) {
      Check.illegal(x, () -> x.bits(0, 19, a, 0));
    }
  }

  /** item: "beyond"; "part 1: its VALUE, of others IllegalArgumentException". */
  private static void items() {
    LibraryDesk x = Check.furnished();
    int[] sizes = {3, 3, 3, 1, 3};
    for (int o : new int[] {0, 1, 2, 3, 4, 10, 20}) {
      int size = o == 10 ? 2 : o == 20 ? 3 : sizes[o];
      boolean map = o != 0 && o != 1 && o != 10;
      for (int i : new int[] {-1, size, LOW, HIGH}) {
        Check.beyond(x, () -> x.item(o, i, 0));
        if (map) {
          Check.beyond(x, () -> x.item(o, i, 1));
        } else {
          Check.illegal(x, () -> x.item(o, i, 1));
        }
        Check.illegal(x, () -> x.item(o, i, 2));
        Check.illegal(x, () -> x.item(o, i, -1));
      }
      if (map) {
        Check.still(x, () -> x.item(o, size - 1, 1) - 10 * x.item(o, size - 1, 0), 0);
      } else {
        Check.illegal(x, () -> x.item(o, 0, 1));
      }
    }
    Check.still(x, () -> x.item(20, 0, 0), 1);
    Check.still(x, () -> x.item(4, 0, 0), 3);
    LibraryDesk y = new LibraryDesk();
    y.make(3, 0, 1);
    y.map(0, 0, 5, 50);
    y.map(0, 0, 6, 60);
    Check.still(y, () -> y.item(0, 0, 0), 5);
    Check.still(y, () -> y.item(0, 0, 1), 50);
    Check.keys(y, 0, 5, 6);
  }
}
