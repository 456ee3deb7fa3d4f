/** The edges that the document names of LISTS, VIEWS of them, their CURSORS, RINGS and HEAPS (promises 4 to 8). */
public final class EdgeRowTest {
  private static final int LOW = Integer.MIN_VALUE;
  private static final int HIGH = Integer.MAX_VALUE;

  public static void main(String[] args) {
    fullLists();
    fullByAllDueAtOnce();
    capacityOfWhatIsDue();
    capacityOfAllDueAtOnce();
    capacityAtLeast();
    capacityJustItsSize();
    capacityNotOfViews();
    placesWhereOneComes();
    placesOfThoseThatAre();
    placesOfTwoThatChange();
    partsThatGo();
    whereAllOfAnotherCome();
    whatIsNotThere();
    emptyLists();
    leastAndGreatest();
    ownElements();
    siftedByItself();
    ordersOfTwo();
    orderNumbers();
    turnedByAnyNumber();
    turnedRound();
    mixedBySeeds();
    halvings();
    rowsInRisingOrder();
    allRowsInRisingOrder();
    hashesWrap();
    sameRows();
    viewPlaces();
    viewsGrowByThemselves();
    staleViewsAnswerNothing();
    notStaleByWhatChangesNothing();
    staleByWhatChangesTheSize();
    freshByItsOwnViews();
    cursorsAtBothEnds();
    passedOnes();
    staleCursors();
    cursorsOfViews();
    fullForCursors();
    Check.end("EdgeRowTest");
  }

  private static LibraryDesk full(int n) {
    LibraryDesk x = Check.row();
    Check.fill(x, 0, n);
    Check.due(() -> x.list(0, 24, 0, 0), n);
    return x;
  }

  /** "at most 2000 ELEMENTS (else full)", by each call by which one comes; "beyond" is ahead of full. */
  private static void fullLists() {
    LibraryDesk x = full(1999);
    Check.due(() -> x.list(0, 0, 5, 0), 2000);
    Check.state(x, () -> x.list(0, 0, 5, 0));
    Check.state(x, () -> x.list(0, 1, 0, 5));
    Check.state(x, () -> x.list(0, 1, 2000, 5));
    Check.beyond(x, () -> x.list(0, 1, 2001, 5));
    Check.beyond(x, () -> x.list(0, 1, -1, 5));
    Check.due(() -> x.list(0, 4, 0, 0), 7);
    Check.due(() -> x.list(0, 1, 0, 6), 2000);
    Check.due(() -> x.view(0, 0, 10, 10), 1);
    Check.state(x, () -> x.list(1, 0, 5, 0));
    Check.state(x, () -> x.list(1, 1, 0, 5));
    Check.beyond(x, () -> x.list(1, 1, 1, 5));
    Check.state(x, () -> x.list(1, 9, 0, 0));
    Check.due(() -> x.list(0, 3, 1999, 8), 5);
  }

  /** Of op 9: all due at once, else full and none comes; none of an empty one is no more than 2000. */
  private static void fullByAllDueAtOnce() {
    LibraryDesk x = full(1990);
    x.make(0, 0, 0);
    Check.fill(x, 1, 11);
    Check.state(x, () -> x.list(0, 9, 0, 1));
    Check.beyond(x, () -> x.list(0, 9, 1991, 1));
    Check.beyond(x, () -> x.list(0, 9, -1, 1));
    Check.due(() -> x.view(1, 0, 1, 11), 2);
    Check.due(() -> x.list(0, 9, 1990, 2), 10);
    Check.due(() -> x.list(0, 24, 0, 0), 2000);
    Check.state(x, () -> x.list(0, 9, 0, 2));
    Check.state(x, () -> x.list(0, 9, 0, 0));
    Check.due(() -> x.view(1, 0, 11, 11), 3);
    Check.still(x, () -> x.list(0, 9, 2000, 3), 0);
    Check.beyond(x, () -> x.list(0, 9, 2001, 3));
    LibraryDesk y = full(1000);
    Check.due(() -> y.list(0, 9, 1000, 0), 1000);
    LibraryDesk z = full(1001);
    Check.state(z, () -> z.list(0, 9, 1001, 0));
  }

  private static void capacity(int first, int come, int want) {
    LibraryDesk x = new LibraryDesk();
    x.make(0, first, 0);
    Check.due(() -> x.list(0, 27, 0, 0), first);
    for (int i = 0; i < come; i++) {
      x.list(0, 0, i, 0);
    }
    Check.due("CAPACITY " + first + " with " + come, () -> x.list(0, 27, 0, 0), want);
  }

  /** "When more are due than its CAPACITY that becomes the greatest of what is due, itself and a half more (cut), 10." */
  private static void capacityOfWhatIsDue() {
    capacity(0, 0, 0);
    capacity(0, 1, 10);
    capacity(0, 10, 10);
    capacity(0, 11, 15);
    capacity(0, 15, 15);
    capacity(0, 16, 22);
    capacity(0, 23, 33);
    capacity(1, 1, 1);
    capacity(1, 2, 10);
    capacity(6, 7, 10);
    capacity(7, 8, 10);
    capacity(8, 8, 8);
    capacity(8, 9, 12);
    capacity(9, 10, 13);
    capacity(11, 11, 11);
    capacity(11, 12, 16);
    capacity(1000, 1000, 1000);
    capacity(1000, 1001, 1500);
    LibraryDesk x = Check.row(1, 2, 3);
    x.list(0, 4, 0, 0);
    Check.due(() -> x.list(0, 27, 0, 0), 10);
    x.list(0, 8, 0, 0);
    Check.due(() -> x.list(0, 27, 0, 0), 10);
    x.view(0, 0, 0, 0);
    for (int i = 0; i < 11; i++) {
      x.list(1, 0, 1, 0);
    }
    Check.due(() -> x.list(0, 27, 0, 0), 15);
  }

  /** Of op 9 what is due is all at once: CAPACITY becomes just that where it is the greatest. */
  private static void capacityOfAllDueAtOnce() {
    int[][] all = {{10, 4, 10, 15}, {10, 5, 10, 15}, {10, 6, 10, 16}, {0, 9, 0, 10}, {0, 10, 0, 10}, {0, 11, 0, 11}, {4, 6, 4, 10}, {4, 7, 4, 11}, {13, 6, 13, 19}, {13, 7, 13, 20}};
    for (int[] a : all) {
      LibraryDesk x = new LibraryDesk();
      x.make(0, a[0], 0);
      x.make(0, 0, 0);
      Check.fill(x, 1, a[1]);
      for (int i = 0; i < a[2]; i++) {
        x.list(0, 0, i, 0);
      }
      Check.due(() -> x.list(0, 9, 0, 1), a[1]);
      Check.due(() -> x.list(0, 27, 0, 0), a[3]);
    }
    LibraryDesk x = Check.row(1, 2);
    x.make(0, 0, 0);
    Check.still(x, () -> x.list(1, 9, 0, 1), 0);
    Check.due(() -> x.list(1, 27, 0, 0), 0);
  }

  /** 28: "at least a (-1 .. 2000) then, as if so many were due". */
  private static void capacityAtLeast() {
    LibraryDesk x = Check.row();
    Check.illegal(x, () -> x.list(0, 28, -2, 0));
    Check.illegal(x, () -> x.list(0, 28, LOW, 0));
    Check.still(x, () -> x.list(0, 28, -1, 0), 0);
    Check.still(x, () -> x.list(0, 28, 0, 0), 0);
    Check.due(() -> x.list(0, 28, 1, 0), 10);
    Check.still(x, () -> x.list(0, 28, 10, 0), 10);
    Check.due(() -> x.list(0, 28, 11, 0), 15);
    Check.due(() -> x.list(0, 28, 22, 0), 22);
    Check.due(() -> x.list(0, 28, 23, 0), 33);
    Check.due(() -> x.list(0, 28, 2000, 0), 2000);
    Check.illegal(x, () -> x.list(0, 28, 2001, 0));
    Check.illegal(x, () -> x.list(0, 28, HIGH, 0));
    Check.due(() -> x.list(0, 24, 0, 0), 0);
    LibraryDesk y = new LibraryDesk();
    y.make(0, 1000, 0);
    Check.due(() -> y.list(0, 28, 1001, 0), 1500);
    Check.due(() -> y.list(0, 28, 1501, 0), 2250);
  }

  /** 29: "just its size then: CAPACITY". */
  private static void capacityJustItsSize() {
    LibraryDesk x = Check.row();
    Check.due(() -> x.list(0, 28, 100, 0), 100);
    Check.due(() -> x.list(0, 29, 0, 0), 0);
    Check.still(x, () -> x.list(0, 29, 0, 0), 0);
    Check.due(() -> x.list(0, 0, 1, 0), 1);
    Check.due(() -> x.list(0, 27, 0, 0), 10);
    Check.due(() -> x.list(0, 29, 0, 0), 1);
    x.list(0, 0, 1, 0);
    Check.due(() -> x.list(0, 27, 0, 0), 10);
    for (int i = 2; i < 20; i++) {
      x.list(0, 0, i, 0);
    }
    Check.due(() -> x.list(0, 29, 0, 0), 20);
    x.list(0, 0, 1, 0);
    Check.due(() -> x.list(0, 27, 0, 0), 30);
  }

  /** "27 .. 29 not of VIEWS". */
  private static void capacityNotOfViews() {
    LibraryDesk x = Check.row(1, 2, 3);
    x.view(0, 0, 0, 3);
    for (int op = 27; op <= 29; op++) {
      int k = op;
      Check.unsupported(x, () -> x.list(1, k, 0, 0));
    }
    Check.still(x, () -> x.list(1, 24, 0, 0), 3);
    Check.still(x, () -> x.list(1, 26, 0, 0), 1);
  }

  /** 1: "b comes at place a (0 .. size, else beyond)". */
  private static void placesWhereOneComes() {
    LibraryDesk x = Check.row();
    Check.beyond(x, () -> x.list(0, 1, 1, 5));
    Check.beyond(x, () -> x.list(0, 1, -1, 5));
    Check.due(() -> x.list(0, 1, 0, 5), 1);
    Check.due(() -> x.list(0, 1, 0, 4), 2);
    Check.due(() -> x.list(0, 1, 2, 6), 3);
    Check.beyond(x, () -> x.list(0, 1, 4, 5));
    Check.beyond(x, () -> x.list(0, 1, LOW, 5));
    Check.beyond(x, () -> x.list(0, 1, HIGH, 5));
    Check.holds(x, 0, 4, 5, 6);
    x.view(0, 0, 1, 2);
    Check.beyond(x, () -> x.list(1, 1, -1, 5));
    Check.beyond(x, () -> x.list(1, 1, 2, 5));
    Check.due(() -> x.list(1, 1, 1, 9), 2);
    Check.due(() -> x.list(1, 1, 0, 8), 3);
    Check.holds(x, 0, 4, 8, 5, 9, 6);
  }

  /** 2, 3, 4 and item: "what is at place a (else beyond)". */
  private static void placesOfThoseThatAre() {
    LibraryDesk x = Check.row(4, 5, 6);
    x.view(0, 0, 1, 2);
    for (int o = 0; o < 2; o++) {
      int at = o;
      int size = o == 0 ? 3 : 1;
      for (int place : new int[] {-1, size, size + 1, LOW, HIGH}) {
        for (int op = 2; op <= 4; op++) {
          int k = op;
          Check.beyond(x, () -> x.list(at, k, place, 9));
        }
        Check.beyond(x, () -> x.item(at, place, 0));
      }
      Check.still(x, () -> x.list(at, 2, size - 1, 9), o == 0 ? 6 : 5);
      Check.still(x, () -> x.list(at, 2, 0, 9), o == 0 ? 4 : 5);
      Check.still(x, () -> x.item(at, size - 1, 0), o == 0 ? 6 : 5);
    }
    Check.due(() -> x.list(0, 3, 2, 9), 6);
    Check.due(() -> x.list(0, 3, 0, 8), 4);
    Check.due(() -> x.list(1, 3, 0, 7), 5);
    Check.holds(x, 0, 8, 7, 9);
    Check.due(() -> x.list(1, 4, 0, 0), 7);
    for (int op = 2; op <= 4; op++) {
      int k = op;
      Check.beyond(x, () -> x.list(1, k, 0, 9));
    }
    Check.due(() -> x.list(0, 4, 1, 0), 9);
    Check.due(() -> x.list(0, 4, 0, 0), 8);
    Check.beyond(x, () -> x.list(0, 4, 0, 0));
    Check.beyond(x, () -> x.item(0, 0, 0));
  }

  /** 16: "places a and b change (else beyond)". */
  private static void placesOfTwoThatChange() {
    LibraryDesk x = Check.row(4, 5, 6);
    int[][] bad = {{-1, 0}, {0, -1}, {3, 0}, {0, 3}, {3, 3}, {-1, -1}, {LOW, 0}, {0, HIGH}};
    for (int[] p : bad) {
      Check.beyond(x, () -> x.list(0, 16, p[0], p[1]));
    }
    Check.due(() -> x.list(0, 16, 0, 2), 3);
    Check.holds(x, 0, 6, 5, 4);
    Check.still(x, () -> x.list(0, 16, 2, 2), 3);
    LibraryDesk y = Check.row();
    Check.beyond(y, () -> y.list(0, 16, 0, 0));
  }

  /** 30: "places a .. b - 1 go (0 <= a <= b <= size, else beyond)". */
  private static void partsThatGo() {
    LibraryDesk x = Check.row(4, 5, 6, 7);
    int[][] bad = {{-1, 0}, {-1, 2}, {2, 1}, {0, 5}, {5, 5}, {4, 3}, {LOW, 0}, {0, HIGH}, {HIGH, LOW}};
    for (int[] p : bad) {
      Check.beyond(x, () -> x.list(0, 30, p[0], p[1]));
    }
    x.view(0, 0, 0, 4);
    Check.still(x, () -> x.list(0, 30, 0, 0), 0);
    Check.still(x, () -> x.list(0, 30, 4, 4), 0);
    Check.due(() -> x.list(1, 24, 0, 0), 4);
    Check.due(() -> x.list(0, 30, 3, 4), 1);
    Check.due(() -> x.list(0, 30, 0, 1), 1);
    Check.holds(x, 0, 5, 6);
    Check.due(() -> x.list(0, 30, 0, 2), 2);
    Check.still(x, () -> x.list(0, 30, 0, 0), 0);
    Check.beyond(x, () -> x.list(0, 30, 0, 1));
  }

  /** 9: "come at place a" of 0 .. size. */
  private static void whereAllOfAnotherCome() {
    LibraryDesk x = Check.row(4, 5);
    x.make(0, 0, 0);
    x.make(0, 0, 0);
    x.list(1, 0, 1, 0);
    x.list(1, 0, 2, 0);
    for (int place : new int[] {-1, 3, LOW, HIGH}) {
      Check.beyond(x, () -> x.list(0, 9, place, 1));
      Check.beyond(x, () -> x.list(0, 9, place, 2));
      Check.beyond(x, () -> x.list(0, 9, place, 0));
    }
    Check.due(() -> x.list(0, 9, 2, 1), 2);
    Check.due(() -> x.list(0, 9, 0, 1), 2);
    Check.holds(x, 0, 1, 2, 4, 5, 1, 2);
    Check.still(x, () -> x.list(0, 9, 6, 2), 0);
  }

  /** 5 .. 7, 18, 20: what is not there goes from nowhere, and has no place. */
  private static void whatIsNotThere() {
    LibraryDesk x = Check.row(4, 5, 4);
    x.make(0, 0, 0);
    for (int o = 0; o < 2; o++) {
      int at = o;
      Check.still(x, () -> x.list(at, 5, 9, 0), 0);
      Check.still(x, () -> x.list(at, 6, 9, 0), -1);
      Check.still(x, () -> x.list(at, 7, 9, 0), -1);
      Check.still(x, () -> x.list(at, 18, 9, 1), 0);
      Check.still(x, () -> x.list(at, 20, 9, 0), 0);
    }
    Check.due(() -> x.list(0, 6, 4, 0), 0);
    Check.due(() -> x.list(0, 7, 4, 0), 2);
    Check.due(() -> x.list(0, 20, 4, 0), 2);
    Check.due(() -> x.list(0, 18, 4, 6), 2);
    Check.due(() -> x.list(0, 5, 6, 0), 1);
    Check.holds(x, 0, 5, 6);
    Check.still(x, () -> x.list(0, 18, 5, 5), 1);
  }

  /** What an empty LIST, and an empty VIEW, answers. */
  private static void emptyLists() {
    LibraryDesk x = Check.row();
    x.make(0, 0, 0);
    x.list(1, 0, 3, 0);
    Check.due(() -> x.view(1, 0, 1, 1), 2);
    for (int o : new int[] {0, 2}) {
      int[] zero = {8, 10, 11, 12, 13, 14, 15, 17, 20, 23, 24};
      for (int op : zero) {
        Check.still(x, () -> x.list(o, op, 1, 1), 0);
      }
      Check.none(x, () -> x.list(o, 21, 0, 0));
      Check.none(x, () -> x.list(o, 22, 0, 0));
      Check.still(x, () -> x.list(o, 19, 5, 0), -1);
      Check.still(x, () -> x.list(o, 25, 0, 0), 1);
      Check.still(x, () -> x.list(o, 26, 0, 0), 1);
      Check.still(x, () -> x.list(o, 26, 0, 1), 0);
      Check.still(x, () -> x.list(o, 30, 0, 0), 0);
    }
  }

  /** 21, 22: "the least, greatest (empty)". */
  private static void leastAndGreatest() {
    LibraryDesk x = Check.row(HIGH, LOW, 0);
    Check.still(x, () -> x.list(0, 21, 0, 0), LOW);
    Check.still(x, () -> x.list(0, 22, 0, 0), HIGH);
    LibraryDesk y = Check.row(-5);
    Check.still(y, () -> y.list(0, 21, 0, 0), -5);
    Check.still(y, () -> y.list(0, 22, 0, 0), -5);
  }

  /** 9: "also itself", a VIEW of itself, and that of which it is a VIEW, "as they are". */
  private static void ownElements() {
    LibraryDesk x = Check.row(1, 2, 3);
    Check.due(() -> x.list(0, 9, 1, 0), 3);
    Check.holds(x, 0, 1, 1, 2, 3, 2, 3);
    x.list(0, 30, 3, 6);
    Check.due(() -> x.view(0, 0, 1, 3), 1);
    Check.due(() -> x.list(1, 9, 1, 0), 3);
    Check.holds(x, 1, 1, 1, 1, 2, 2);
    Check.holds(x, 0, 1, 1, 1, 1, 2, 2);
    Check.due(() -> x.list(0, 9, 6, 1), 5);
    Check.holds(x, 0, 1, 1, 1, 1, 2, 2, 1, 1, 1, 2, 2);
    Check.state(x, () -> x.list(1, 24, 0, 0));
  }

  /** 10, 11: with itself all go, or none; with an empty one none, or all. */
  private static void siftedByItself() {
    LibraryDesk x = Check.row(3, 1, 3);
    x.make(0, 0, 0);
    Check.still(x, () -> x.list(0, 11, 0, 0), 0);
    Check.still(x, () -> x.list(0, 10, 0, 1), 0);
    x.view(0, 0, 2, 3);
    Check.due(() -> x.list(0, 10, 0, 2), 2);
    Check.holds(x, 0, 1);
    Check.due(() -> x.list(0, 11, 0, 1), 1);
    Check.holds(x, 0);
    LibraryDesk y = Check.row(3, 1, 3);
    Check.due(() -> y.list(0, 10, 0, 0), 3);
    LibraryDesk z = Check.row(3, 1, 2, 1, LOW, HIGH);
    z.view(0, 0, 1, 3);
    Check.due(() -> z.list(1, 10, 0, 0), 2);
    Check.holds(z, 0, 3, 1, LOW, HIGH);
    z.view(0, 0, 2, 4);
    Check.due(() -> z.list(0, 11, 0, 2), 2);
    Check.holds(z, 0, LOW, HIGH);
  }

  private static void sorted(int order, int[] row, int... want) {
    LibraryDesk x = Check.row(row);
    Check.due(() -> x.list(0, 12, order, 0), row.length);
    Check.holds(x, 0, want);
  }

  /** "ORDERS: 0 rising; 1 falling; 2 by size (without sign), of the same size rising; 3 by the number mod 10 alone", "stable". */
  private static void ordersOfTwo() {
    sorted(0, new int[] {1, HIGH, LOW, 0, -1}, LOW, -1, 0, 1, HIGH);
    sorted(1, new int[] {1, HIGH, LOW, 0, -1}, HIGH, 1, 0, -1, LOW);
    sorted(2, new int[] {1, HIGH, LOW, 0, -1, -HIGH}, 0, -1, 1, -HIGH, HIGH, LOW);
    sorted(2, new int[] {5, -5, 5, -5, 4, -6}, 4, -5, -5, 5, 5, -6);
    sorted(3, new int[] {19, -1, 9, 10, -10, 0, LOW, HIGH, -3}, 10, -10, 0, LOW, HIGH, -3, 19, -1, 9);
    sorted(3, new int[] {7, -3, 17, -13}, 7, -3, 17, -13);
    sorted(0, new int[] {2}, 2);
  }

  /** "sorted by ORDER a 0 .. 3", "HALVING by ORDER b 0 .. 3". */
  private static void orderNumbers() {
    LibraryDesk x = Check.row(1, 2);
    for (int order : new int[] {-1, 4, LOW, HIGH}) {
      Check.illegal(x, () -> x.list(0, 12, order, 0));
      Check.illegal(x, () -> x.list(0, 19, 0, order));
    }
    Check.still(x, () -> x.list(0, 12, 0, 4), 2);
    Check.still(x, () -> x.list(0, 12, 3, -1), 2);
    Check.still(x, () -> x.list(0, 19, 2, 0), 1);
    Check.still(x, () -> x.list(0, 19, 12, 3), 1);
    Check.still(x, () -> x.list(0, 19, 4, 3), -3);
  }

  /** 14: "what is at place i comes to (i + a) mod size", mod never below 0. */
  private static void turnedByAnyNumber() {
    int[][] turns = {{0, 1, 2, 3}, {1, 3, 1, 2}, {2, 2, 3, 1}, {3, 1, 2, 3}, {4, 3, 1, 2}, {-1, 2, 3, 1}, {-3, 1, 2, 3}, {-4, 2, 3, 1}, {LOW, 3, 1, 2}, {HIGH, 3, 1, 2}};
    for (int[] t : turns) {
      LibraryDesk x = Check.row(1, 2, 3);
      Check.due(() -> x.list(0, 14, t[0], 0), 3);
      Check.holds(x, 0, t[1], t[2], t[3]);
    }
    LibraryDesk y = Check.row(9);
    Check.still(y, () -> y.list(0, 14, LOW, 0), 1);
  }

  /** 15: "for i from size - 1 down to 1", so that one alone stays; SEEDS wrap. */
  private static void mixedBySeeds() {
    LibraryDesk y = Check.row(9);
    Check.still(y, () -> y.list(0, 15, 77, 0), 1);
    for (int seed : new int[] {0, 1, -1, LOW, HIGH, 123456789}) {
      int[] row = {0, 1, 2, 3, 4, 5, 6};
      LibraryDesk x = Check.row(row);
      long s = seed;
      for (int i = 6; i >= 1; i--) {
        s = (int) (s * 1103515245L + 12345L);
        int k = (int) (((s & 0xFFFFFFFFL) >> 8) % (i + 1));
        int was = row[i];
        row[i] = row[k];
        row[k] = was;
      }
      Check.due(() -> x.list(0, 15, seed, 0), 7);
      Check.holds(x, 0, row);
    }
  }

  /** 19: "alike: m is the answer; else -1 - from". */
  private static void halvings() {
    LibraryDesk x = Check.row(10, 20, 20, 30);
    int[][] dues = {{9, -1}, {10, 0}, {11, -2}, {20, 1}, {25, -4}, {30, 3}, {31, -5}, {LOW, -1}, {HIGH, -5}};
    for (int[] d : dues) {
      Check.still(x, () -> x.list(0, 19, d[0], 0), d[1]);
    }
    x.list(0, 12, 1, 0);
    Check.still(x, () -> x.list(0, 19, 31, 1), -1);
    Check.still(x, () -> x.list(0, 19, 9, 1), -5);
    Check.still(x, () -> x.list(0, 19, 7, 3), -5);
    Check.still(x, () -> x.list(0, 19, 40, 3), 1);
  }

  /** 23: "1; 0 and the first one if it was the last". */
  private static void rowsInRisingOrder() {
    LibraryDesk x = Check.row(1, 2, 2);
    int[][] next = {{2, 1, 2}, {2, 2, 1}};
    for (int[] n : next) {
      Check.due(() -> x.list(0, 23, 0, 0), 1);
      Check.holds(x, 0, n);
    }
    Check.due(() -> x.list(0, 23, 0, 0), 0);
    Check.holds(x, 0, 1, 2, 2);
    LibraryDesk y = Check.row(5);
    Check.still(y, () -> y.list(0, 23, 0, 0), 0);
    LibraryDesk z = Check.row(4, 4, 4);
    Check.still(z, () -> z.list(0, 23, 0, 0), 0);
    LibraryDesk w = Check.row(9, LOW, HIGH, 0);
    w.view(0, 0, 1, 3);
    Check.due(() -> w.list(1, 23, 0, 0), 1);
    Check.holds(w, 0, 9, HIGH, LOW, 0);
    Check.due(() -> w.list(1, 23, 0, 0), 0);
    Check.holds(w, 0, 9, LOW, HIGH, 0);
  }

  /** 25: "h from 1 on: 31 h + ELEMENT (ints)". */
  private static void hashesWrap() {
    LibraryDesk x = Check.row(HIGH);
    Check.due(() -> x.list(0, 25, 0, 0), (int) (31L + HIGH));
    x.list(0, 0, LOW, 0);
    Check.due(() -> x.list(0, 25, 0, 0), (int) (31L * (int) (31L + HIGH) + LOW));
  }

  /** 26: "1 if b has the same in the same places, else 0". */
  private static void sameRows() {
    LibraryDesk x = Check.row(1, 2, 1, 2, 1);
    x.view(0, 0, 0, 2);
    x.view(0, 0, 2, 4);
    x.view(0, 0, 0, 3);
    x.view(0, 0, 1, 3);
    Check.still(x, () -> x.list(1, 26, 0, 2), 1);
    Check.still(x, () -> x.list(1, 26, 0, 3), 0);
    Check.still(x, () -> x.list(3, 26, 0, 1), 0);
    Check.still(x, () -> x.list(1, 26, 0, 4), 0);
    Check.still(x, () -> x.list(0, 26, 0, 0), 1);
  }

  /** view 0: "0 <= a <= b <= size, else beyond"; kinds of LIST, VIEW: 0 alone. */
  private static void viewPlaces() {
    LibraryDesk x = Check.row(1, 2, 3);
    Check.due(() -> x.view(0, 0, 1, 3), 1);
    int[][] bad = {{-1, 0}, {-1, -1}, {2, 1}, {0, 4}, {4, 4}, {LOW, 0}, {0, HIGH}, {HIGH, HIGH}};
    for (int[] p : bad) {
      Check.beyond(x, () -> x.view(0, 0, p[0], p[1]));
      Check.beyond(x, () -> x.view(1, 0, p[0], p[1]));
    }
    Check.beyond(x, () -> x.view(1, 0, 0, 3));
    for (int kind : new int[] {-1, 1, 2, 3, 4, 5, LOW, HIGH}) {
      Check.illegal(x, () -> x.view(0, kind, 0, 1));
      Check.illegal(x, () -> x.view(1, kind, 0, 1));
    }
    Check.due(() -> x.view(0, 0, 0, 0), 2);
    Check.due(() -> x.view(0, 0, 3, 3), 3);
    Check.due(() -> x.view(0, 0, 0, 3), 4);
    Check.due(() -> x.view(1, 0, 2, 2), 5);
    Check.holds(x, 2);
    Check.holds(x, 3);
    Check.holds(x, 4, 1, 2, 3);
    Check.holds(x, 5);
    Check.due(() -> x.list(5, 0, 9, 0), 1);
    Check.holds(x, 1, 2, 3, 9);
    Check.holds(x, 0, 1, 2, 3, 9);
  }

  /** "places a .. b - 1 of a LIST or VIEW at its making, and what comes between these by it". */
  private static void viewsGrowByThemselves() {
    LibraryDesk x = Check.row(1, 2, 3, 4);
    x.view(0, 0, 1, 3);
    Check.due(() -> x.list(1, 0, 8, 0), 3);
    Check.due(() -> x.list(1, 1, 0, 7), 4);
    Check.holds(x, 1, 7, 2, 3, 8);
    Check.holds(x, 0, 1, 7, 2, 3, 8, 4);
    Check.due(() -> x.list(1, 8, 0, 0), 4);
    Check.holds(x, 0, 1, 4);
    Check.due(() -> x.list(1, 9, 0, 0), 2);
    Check.holds(x, 0, 1, 1, 4, 4);
    Check.due(() -> x.list(1, 17, 5, 0), 2);
    Check.due(() -> x.list(1, 12, 0, 0), 2);
    Check.holds(x, 0, 1, 5, 5, 4);
  }

  /** "All its calls and calls that name it as b, look at that": a STALE VIEW answers no call. */
  private static void staleViewsAnswerNothing() {
    LibraryDesk x = Check.row(1, 2, 3);
    x.view(0, 0, 0, 2);
    x.cursor(1);
    x.make(5, 10, 0);
    x.list(0, 0, 4, 0);
    for (int op = 0; op <= 30; op++) {
      int k = op;
      Check.state(x, () -> x.list(1, k, 0, 0));
    }
    for (int op : new int[] {9, 10, 11, 26}) {
      Check.state(x, () -> x.list(0, op, 0, 1));
      Check.state(x, () -> x.list(0, op, 99, 1));
      Check.state(x, () -> x.list(1, op, 0, 1));
    }
    Check.state(x, () -> x.view(1, 0, 0, 0));
    Check.state(x, () -> x.cursor(1));
    Check.state(x, () -> x.item(1, 0, 0));
    Check.state(x, () -> x.heap(3, 7, 1));
    for (int op = 0; op <= 8; op++) {
      int k = op;
      Check.state(x, () -> x.move(2, k, 0));
    }
    Check.tape(x, "x");
    Check.state(x, () -> x.form(1));
    Check.tape(x, "list 1 | count");
    Check.state(x, () -> x.stream());
    Check.still(x, () -> x.list(0, 24, 0, 1), 4);
    x.list(0, 4, 3, 0);
    Check.state(x, () -> x.list(1, 24, 0, 0));
    Check.due(() -> x.drop(1), 2);
  }

  /** "CHANGES of a LIST: how often its size was changed (not by calls that change nothing of it)". */
  private static void notStaleByWhatChangesNothing() {
    LibraryDesk x = Check.row(3, 1, 2);
    x.view(0, 0, 0, 3);
    x.cursor(0);
    x.make(0, 0, 0);
    int[][] calls = {{2, 0, 0}, {3, 0, 3}, {5, 99, 0}, {6, 1, 0}, {7, 1, 0}, {9, 0, 3}, {10, 0, 3}, {11, 0, 0}, {12, 0, 0}, {13, 0, 0}, {14, 1, 0}, {15, 1, 0}, {16, 0, 1}, {17, 4, 0}, {18, 4, 5},
        {19, 0, 0}, {20, 0, 0}, {21, 0, 0}, {22, 0, 0}, {23, 0, 0}, {24, 0, 0}, {25, 0, 0}, {26, 0, 0}, {27, 0, 0}, {28, 50, 0}, {29, 0, 0}, {30, 1, 1}};
    for (int[] c : calls) {
      x.list(0, c[0], c[1], c[2]);
      Check.due("VIEW behind " + c[0], () -> x.list(1, 24, 0, 0), 3);
      Check.due("CURSOR behind " + c[0], () -> x.move(2, 4, 0), 0);
    }
    LibraryDesk y = Check.row();
    y.view(0, 0, 0, 0);
    y.list(0, 8, 0, 0);
    y.list(0, 9, 0, 0);
    y.list(0, 10, 0, 0);
    y.list(0, 30, 0, 0);
    Check.due(() -> y.list(1, 24, 0, 0), 0);
  }

  /** "A VIEW is STALE if the LIST was changed .. other than by it", by each call that changes the size. */
  private static void staleByWhatChangesTheSize() {
    int[][] calls = {{0, 5, 0}, {1, 0, 5}, {4, 0, 0}, {5, 3, 0}, {8, 0, 0}, {9, 0, 0}, {10, 0, 0}, {11, 0, 2}, {30, 0, 1}};
    for (int[] c : calls) {
      LibraryDesk x = Check.row(3, 1, 2);
      x.view(0, 0, 0, 3);
      x.make(0, 0, 0);
      x.cursor(0);
      x.list(0, c[0], c[1], c[2]);
      Check.state(x, () -> x.list(1, 24, 0, 0));
      Check.state(x, () -> x.move(3, 4, 0));
    }
    LibraryDesk x = Check.row(3, 1, 2);
    x.view(0, 0, 0, 3);
    x.list(0, 0, 9, 0);
    x.list(0, 4, 3, 0);
    Check.state(x, () -> x.list(1, 24, 0, 0));
    x.view(0, 0, 0, 3);
    x.cursor(0);
    x.move(3, 7, 9);
    Check.state(x, () -> x.list(2, 24, 0, 0));
  }

  /** "other than by it or by VIEWS of it": those that it is of stay fresh, those beside and below it do not. */
  private static void freshByItsOwnViews() {
    LibraryDesk x = Check.row(1, 2, 3, 4, 5);
    x.view(0, 0, 0, 4);
    x.view(1, 0, 1, 3);
    x.view(1, 0, 1, 3);
    x.view(2, 0, 0, 1);
    Check.due(() -> x.list(2, 0, 9, 0), 3);
    Check.holds(x, 1, 1, 2, 3, 9, 4);
    Check.holds(x, 2, 2, 3, 9);
    Check.state(x, () -> x.list(3, 24, 0, 0));
    Check.state(x, () -> x.list(4, 24, 0, 0));
    Check.due(() -> x.list(2, 4, 0, 0), 2);
    Check.holds(x, 0, 1, 3, 9, 4, 5);
    Check.due(() -> x.list(1, 30, 0, 1), 1);
    Check.state(x, () -> x.list(2, 24, 0, 0));
    Check.holds(x, 1, 3, 9, 4);
  }

  /** move 0, 1: "none: NoSuchElementException"; 2, 3: "1 if there is one next, before". */
  private static void cursorsAtBothEnds() {
    LibraryDesk x = Check.row(7, 8);
    x.cursor(0);
    Check.none(x, () -> x.move(1, 1, 0));
    Check.still(x, () -> x.move(1, 3, 0), 0);
    Check.still(x, () -> x.move(1, 2, 0), 1);
    Check.due(() -> x.move(1, 0, 0), 7);
    Check.still(x, () -> x.move(1, 3, 0), 1);
    Check.due(() -> x.move(1, 0, 0), 8);
    Check.none(x, () -> x.move(1, 0, 0));
    Check.still(x, () -> x.move(1, 2, 0), 0);
    Check.still(x, () -> x.move(1, 4, 0), 2);
    Check.due(() -> x.move(1, 6, 9), 8);
    Check.due(() -> x.move(1, 1, 0), 9);
    Check.due(() -> x.move(1, 1, 0), 7);
    Check.none(x, () -> x.move(1, 1, 0));
    Check.still(x, () -> x.move(1, 4, 0), 0);
    LibraryDesk y = Check.row();
    y.cursor(0);
    Check.none(y, () -> y.move(1, 0, 0));
    Check.none(y, () -> y.move(1, 1, 0));
    Check.still(y, () -> y.move(1, 2, 0) + y.move(1, 3, 0) + y.move(1, 4, 0), 0);
    Check.unsupported(y, () -> y.move(1, 8, 0));
    Check.due(() -> y.move(1, 7, 5), 1);
    Check.due(() -> y.move(1, 4, 0), 1);
    Check.due(() -> y.move(1, 1, 0), 5);
  }

  /** "5, 6, 8 without PASSED: IllegalStateException (behind STALE)"; behind 5 and 7 none is PASSED. */
  private static void passedOnes() {
    LibraryDesk x = Check.row(1, 2, 3);
    x.cursor(0);
    Check.state(x, () -> x.move(1, 5, 0));
    Check.state(x, () -> x.move(1, 6, 0));
    Check.unsupported(x, () -> x.move(1, 8, 0));
    x.move(1, 0, 0);
    Check.due(() -> x.move(1, 6, 9), 1);
    Check.due(() -> x.move(1, 6, 8), 9);
    Check.due(() -> x.move(1, 5, 0), 8);
    Check.state(x, () -> x.move(1, 5, 0));
    Check.state(x, () -> x.move(1, 6, 0));
    Check.due(() -> x.move(1, 4, 0), 0);
    x.move(1, 0, 0);
    x.move(1, 1, 0);
    Check.due(() -> x.move(1, 5, 0), 2);
    Check.due(() -> x.move(1, 4, 0), 0);
    x.move(1, 0, 0);
    Check.due(() -> x.move(1, 7, 4), 2);
    Check.state(x, () -> x.move(1, 5, 0));
    Check.state(x, () -> x.move(1, 6, 0));
    Check.holds(x, 0, 3, 4);
    Check.none(x, () -> x.move(1, 0, 0));
    x.move(1, 1, 0);
    x.move(1, 2, 0);
    x.move(1, 3, 0);
    x.move(1, 4, 0);
    Check.due(() -> x.move(1, 5, 0), 4);
    Check.holds(x, 0, 3);
  }

  /** "STALE if its OBJECT was changed in size .. since its making or its own last change, other than by it". */
  private static void staleCursors() {
    LibraryDesk x = Check.row(1, 2, 3);
    x.cursor(0);
    x.cursor(0);
    x.move(1, 0, 0);
    x.list(0, 3, 0, 9);
    Check.due(() -> x.move(1, 6, 1), 9);
    x.move(1, 7, 5);
    for (int op = 0; op <= 7; op++) {
      int k = op;
      Check.state(x, () -> x.move(2, k, 0));
    }
    Check.due(() -> x.move(1, 0, 0), 2);
    Check.due(() -> x.move(1, 5, 0), 2);
    Check.due(() -> x.move(1, 0, 0), 3);
    x.list(0, 0, 9, 0);
    Check.state(x, () -> x.move(1, 5, 0));
    x.list(0, 4, 3, 0);
    Check.state(x, () -> x.move(1, 4, 0));
  }

  /** "The cursor of an old VIEW is STALE with it", and one of a VIEW that goes on by its own changes does so. */
  private static void cursorsOfViews() {
    LibraryDesk x = Check.row(1, 2, 3, 4);
    x.view(0, 0, 1, 3);
    x.cursor(1);
    Check.due(() -> x.move(2, 0, 0), 2);
    Check.due(() -> x.move(2, 7, 9), 3);
    Check.due(() -> x.move(2, 0, 0), 3);
    Check.none(x, () -> x.move(2, 0, 0));
    Check.due(() -> x.move(2, 5, 0), 3);
    Check.holds(x, 1, 2, 9);
    Check.holds(x, 0, 1, 2, 9, 4);
    x.list(1, 0, 5, 0);
    Check.state(x, () -> x.move(2, 4, 0));
    Check.due(() -> x.cursor(1), 3);
    x.list(0, 4, 0, 0);
    Check.state(x, () -> x.move(3, 4, 0));
  }

  /** Of move 7: full as of op 0. */
  private static void fullForCursors() {
    LibraryDesk x = full(1999);
    x.cursor(0);
    x.move(1, 0, 0);
    Check.due(() -> x.move(1, 7, 3), 2000);
    x.move(1, 0, 0);
    Check.state(x, () -> x.move(1, 7, 3));
    Check.due(() -> x.move(1, 4, 0), 3);
    Check.due(() -> x.move(1, 5, 0), 7);
    Check.due(() -> x.move(1, 7, 3), 2000);
  }

  /** 13: "turned round", of none, one, an even and an odd number; of a VIEW the others stay. */
  private static void turnedRound() {
    LibraryDesk x = Check.row(1, 2, 3, 4, 5);
    Check.due(() -> x.list(0, 13, 0, 0), 5);
    Check.holds(x, 0, 5, 4, 3, 2, 1);
    x.view(0, 0, 1, 3);
    Check.due(() -> x.list(1, 13, 0, 0), 2);
    Check.holds(x, 0, 5, 3, 4, 2, 1);
    x.view(0, 0, 4, 5);
    x.view(0, 0, 5, 5);
    Check.still(x, () -> x.list(2, 13, 0, 0), 1);
    Check.still(x, () -> x.list(3, 13, 0, 0), 0);
    x.view(0, 0, 1, 5);
    Check.due(() -> x.list(4, 13, 0, 0), 4);
    Check.holds(x, 0, 5, 1, 2, 4, 3);
  }

  /** 23: "the next row in rising order of all rows of the same ELEMENTS": each of them comes once, whatever is twice there. */
  private static void allRowsInRisingOrder() {
    int[][] firsts = {{1, 2, 3, 4}, {1, 1, 2, 2}, {1, 1, 1, 2}, {1, 2, 2, 3, 3}, {-2, -1, 0, 0, 7}};
    int[] many = {24, 6, 4, 30, 60};
    for (int i = 0; i < firsts.length; i++) {
      LibraryDesk x = Check.row(firsts[i]);
      int[] before = firsts[i];
      for (int n = 1; n < many[i]; n++) {
        Check.due(() -> x.list(0, 23, 0, 0), 1);
        int[] now = new int[before.length];
        for (int k = 0; k < now.length; k++) {
          now[k] = (int) x.item(0, k, 0);
        }
        if (java.util.Arrays.compare(before, now) >= 0) {
          Check.fail("a row behind is not behind");
        }
        before = now;
      }
      Check.due(() -> x.list(0, 23, 0, 0), 0);
      Check.holds(x, 0, firsts[i]);
    }
  }
}
