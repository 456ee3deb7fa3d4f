/** The edges that the document names of MAPS, SUBMAPS and their CURSORS (promises 5, 6 and 8). */
public final class EdgeMapTest {
  private static final int LOW = Integer.MIN_VALUE;
  private static final int HIGH = Integer.MAX_VALUE;
  private static final long NONE = Check.NONE;

  public static void main(String[] args) {
    fullMaps();
    fullByAll();
    fullByNewKeysAlone();
    limitOfOne();
    limitsOfLinked();
    neverFull();
    firstTables();
    tablesDouble();
    tablesStay();
    binsOfEight();
    binsWithSmallTables();
    bushyNoMore();
    bushyOnesDoubled();
    bushyBinsFarBehind();
    bushyOnesBesideOthers();
    binsByRule();
    orderOfBins();
    linkedByUse();
    useIsAChange();
    emptyMaps();
    notOfThatKind();
    valuesWrap();
    valuesThatGiveNought();
    noKeyThere();
    nearestKeys();
    turnedNearest();
    alikeKeys();
    sameMaps();
    allOfItself();
    allBeforeAny();
    submapEdges();
    turnedSubmaps();
    emptySubmaps();
    submapsOfSubmaps();
    submapsOfEachKind();
    goneFromASubmapAlone();
    keysThatAreNoneOfThese();
    viewKinds();
    cursorsAtTheEnd();
    passedKeys();
    staleCursors();
    Check.end("EdgeMapTest");
  }

  private static LibraryDesk map(int kind, int a, int b, int... keys) {
    LibraryDesk x = new LibraryDesk();
    x.make(kind, a, b);
    for (int k : keys) {
      x.map(0, 0, k, 10 * k);
    }
    return x;
  }

  private static void fill(LibraryDesk x, int o, int from, int to) {
    for (int k = from; k < to; k++) {
      x.map(o, 0, k, k);
    }
  }

  /** "at most 1000 (else full)", by each op by which a key comes; those that find it are not refused. */
  private static void fullMaps() {
    int[][] kinds = {{2, 0, 0}, {2, 1000, 3}, {3, 0, 0}, {3, 0, 1}, {4, 0, 0}, {4, 2, 0}};
    for (int[] m : kinds) {
      LibraryDesk x = map(m[0], m[1], m[2]);
      fill(x, 0, 0, 999);
      Check.due(() -> x.map(0, 0, 999, 5), NONE);
      for (int op : new int[] {0, 6, 8}) {
        Check.state(x, () -> x.map(0, op, 1000, 5));
        Check.state(x, () -> x.map(0, op, -1, 0));
      }
      Check.still(x, () -> x.map(0, 7, 1000, 5), NONE);
      Check.still(x, () -> x.map(0, 4, 0, 0), 1000);
      Check.due(() -> x.map(0, 0, 999, 6), 5);
      Check.due(() -> x.map(0, 6, 999, 7), 6);
      Check.due(() -> x.map(0, 7, 999, 8), 6);
      Check.due(() -> x.map(0, 8, 999, 1), 9);
      Check.due(() -> x.map(0, 2, 999, 0), 9);
      Check.due(() -> x.map(0, 8, 1000, 5), 5);
      Check.state(x, () -> x.map(0, 6, 999, 5));
      Check.due(() -> x.map(0, 4, 0, 0), 1000);
    }
    LibraryDesk x = map(4, 0, 0);
    fill(x, 0, 0, 1000);
    x.view(0, 3, 500, 0);
    for (int op : new int[] {0, 6, 8}) {
      Check.state(x, () -> x.map(1, op, 1000, 5));
      Check.illegal(x, () -> x.map(1, op, -1, 5));
    }
    Check.due(() -> x.map(1, 2, 999, 0), 999);
    Check.due(() -> x.map(1, 6, 1000, 5), NONE);
  }

  /** 20: "full by how many new keys would come". */
  private static void fullByAll() {
    for (int kind = 2; kind <= 4; kind++) {
      LibraryDesk x = map(kind, 0, 0);
      fill(x, 0, 0, 990);
      x.make(3, 0, 0);
      fill(x, 1, 980, 1001);
      Check.state(x, () -> x.map(0, 20, 0, 1));
      x.map(1, 2, 1000, 0);
      Check.due(() -> x.map(0, 20, 0, 1), 20);
      Check.due(() -> x.map(0, 4, 0, 0), 1000);
      Check.due(() -> x.map(0, 20, 0, 1), 20);
      x.map(1, 5, 0, 0);
      Check.still(x, () -> x.map(0, 20, 0, 1), 0);
      x.map(1, 0, -1, 0);
      Check.state(x, () -> x.map(0, 20, 0, 1));
    }
    LibraryDesk y = map(4, 3, 0);
    y.make(2, 0, 0);
    fill(y, 1, 0, 1000);
    Check.due(() -> y.map(0, 20, 0, 1), 1000);
    Check.due(() -> y.map(0, 4, 0, 0), 10);
    Check.due(() -> y.item(0, 9, 1), 999);
    Check.due(() -> y.item(0, 9, 0), 9);
  }

  /** "With LIMIT above 0: a key comes, and there are more then: the first one goes". */
  private static void limitsOfLinked() {
    LibraryDesk x = map(3, 1, 0, 5);
    Check.due(() -> x.map(0, 0, 6, 60), NONE);
    Check.keys(x, 0, 6);
    Check.due(() -> x.map(0, 0, 6, 61), 60);
    Check.due(() -> x.map(0, 6, 7, 70), NONE);
    Check.due(() -> x.map(0, 8, 8, 80), 80);
    Check.keys(x, 0, 8);
    LibraryDesk y = map(3, 2, 0, 5, 6);
    Check.keys(y, 0, 5, 6);
    y.map(0, 0, 5, 1);
    Check.keys(y, 0, 5, 6);
    y.map(0, 0, 7, 1);
    Check.keys(y, 0, 6, 7);
    LibraryDesk z = map(3, 2, 1, 5, 6);
    z.map(0, 1, 5, 0);
    z.map(0, 0, 7, 1);
    Check.keys(z, 0, 5, 7);
    LibraryDesk w = map(3, 3, 0, 1);
    w.make(4, 0, 0);
    fill(w, 1, 1, 8);
    Check.due(() -> w.map(0, 20, 0, 1), 7);
    Check.keys(w, 0, 5, 6, 7);
    LibraryDesk v = map(3, 0, 0);
    fill(v, 0, 0, 30);
    Check.due(() -> v.map(0, 4, 0, 0), 30);
  }

  /** "(such a one is never full)". */
  private static void neverFull() {
    LibraryDesk x = map(3, 1000, 0);
    fill(x, 0, 0, 1000);
    Check.due(() -> x.map(0, 4, 0, 0), 1000);
    Check.due(() -> x.map(0, 10, 0, 0), 0);
    Check.due(() -> x.map(0, 0, 1000, 1), NONE);
    Check.due(() -> x.map(0, 6, 1001, 1), NONE);
    Check.due(() -> x.map(0, 8, 1002, 1), 1);
    Check.due(() -> x.map(0, 4, 0, 0), 1000);
    Check.due(() -> x.map(0, 10, 0, 0), 3);
    x.make(2, 0, 0);
    fill(x, 1, 2000, 2007);
    Check.due(() -> x.map(0, 20, 0, 1), 7);
    Check.due(() -> x.map(0, 10, 0, 0), 10);
    Check.due(() -> x.map(0, 11, 0, 0), x.item(1, 6, 0));
  }

  /** "TABLE: none at first; with the first key the least power of 2 that is at least the CAPACITY and 1." */
  private static void firstTables() {
    int[][] tables = {{0, 2}, {1, 2}, {2, 2}, {3, 4}, {4, 4}, {5, 8}, {8, 8}, {9, 16}, {64, 64}, {65, 128}, {512, 512}, {513, 1024}, {1000, 1024}};
    for (int[] t : tables) {
      for (int op : new int[] {0, 6, 8, 20}) {
        LibraryDesk x = map(2, t[0], 0);
        x.make(4, 0, 0);
        Check.still(x, () -> x.map(0, 21, 0, 0), 0);
        Check.still(x, () -> x.map(0, 20, 0, 1), 0);
        x.map(0, 1, 5, 5);
        x.map(0, 2, 5, 5);
        x.map(0, 3, 5, 5);
        x.map(0, 7, 5, 5);
        x.map(0, 5, 5, 5);
        Check.still(x, () -> x.map(0, 21, 0, 0), 0);
        x.map(1, 0, 5, 5);
        x.map(0, op, op == 20 ? 0 : 5, op == 20 ? 1 : 5);
        Check.due("TABLE of " + t[0], () -> x.map(0, 21, 0, 0), t[1]);
      }
    }
  }

  /** "Behind each key that came, if size * 4 > TABLE * 3, it is doubled." */
  private static void tablesDouble() {
    LibraryDesk x = map(2, 0, 0);
    for (int k = 1; k <= 1000; k++) {
      x.map(0, 0, k, 1);
      int table = 1;
      while (4 * k > 3 * table) {
        table *= 2;
      }
      int want = table;
      Check.due("TABLE with " + k, () -> x.map(0, 21, 0, 0), want);
    }
    LibraryDesk y = map(2, 4, 0, 1, 2, 3);
    Check.due(() -> y.map(0, 21, 0, 0), 4);
    y.map(0, 0, 3, 5);
    Check.due(() -> y.map(0, 21, 0, 0), 4);
    y.map(0, 2, 3, 0);
    y.map(0, 0, 4, 0);
    Check.due(() -> y.map(0, 21, 0, 0), 4);
    y.map(0, 0, 5, 0);
    Check.due(() -> y.map(0, 21, 0, 0), 8);
  }

  /** "Behind op 5 TABLE stays, no BIN is BUSHY"; it stays when keys go, too. */
  private static void tablesStay() {
    LibraryDesk x = map(2, 64, 2);
    fill(x, 0, 0, 12);
    Check.due(() -> x.map(0, 21, 0, 0), 64);
    Check.due(() -> x.map(0, 22, 0, 0), 1);
    Check.due(() -> x.map(0, 5, 0, 0), 12);
    Check.still(x, () -> x.map(0, 21, 0, 0), 64);
    Check.still(x, () -> x.map(0, 22, 0, 0), 0);
    fill(x, 0, 0, 8);
    Check.still(x, () -> x.map(0, 22, 0, 0), 0);
    LibraryDesk y = map(2, 0, 0);
    fill(y, 0, 0, 13);
    for (int k = 0; k < 13; k++) {
      y.map(0, 2, k, 0);
    }
    Check.still(y, () -> y.map(0, 21, 0, 0), 32);
    Check.still(y, () -> y.map(0, 4, 0, 0), 0);
  }

  /** "A key that comes to a BIN that has 8 or more: .. else the BIN is BUSHY", with a TABLE of 64. */
  private static void binsOfEight() {
    for (int op : new int[] {0, 6, 8}) {
      LibraryDesk x = map(2, 64, 2);
      fill(x, 0, 0, 8);
      Check.still(x, () -> x.map(0, 22, 0, 0), 0);
      x.map(0, 0, 3, 99);
      Check.still(x, () -> x.map(0, 22, 0, 0), 0);
      x.map(0, op, 8, 1);
      Check.still(x, () -> x.map(0, 22, 0, 0), 1);
      Check.still(x, () -> x.map(0, 21, 0, 0), 64);
      x.map(0, op, 9, 1);
      Check.still(x, () -> x.map(0, 22, 0, 0), 1);
    }
    LibraryDesk y = map(2, 64, 1);
    for (int k = 0; k < 9; k++) {
      y.map(0, 0, 16 * k, 0);
      y.map(0, 0, 16 * k + 15, 0);
    }
    Check.due(() -> y.map(0, 22, 0, 0), 2);
  }

  /** "with a TABLE below 64 the TABLE is doubled, then (once)". */
  private static void binsWithSmallTables() {
    LibraryDesk x = map(2, 32, 2);
    fill(x, 0, 0, 8);
    Check.due(() -> x.map(0, 21, 0, 0), 32);
    x.map(0, 0, 8, 0);
    Check.due(() -> x.map(0, 21, 0, 0), 64);
    Check.due(() -> x.map(0, 22, 0, 0), 0);
    x.map(0, 0, 9, 0);
    Check.due(() -> x.map(0, 21, 0, 0), 64);
    Check.due(() -> x.map(0, 22, 0, 0), 1);
    LibraryDesk y = map(2, 0, 2);
    int[] tables = {2, 4, 4, 8, 8, 8, 16, 16, 32, 64, 64};
    for (int k = 0; k < tables.length; k++) {
      int want = tables[k];
      int key = k;
      Check.due(() -> y.map(0, 0, key, 0), NONE);
      Check.due("TABLE with " + (k + 1), () -> y.map(0, 21, 0, 0), want);
      Check.due(() -> y.map(0, 22, 0, 0), key == 10 ? 1 : 0);
    }
  }

  /** "A BUSHY one from which one goes is not any more if it has 6 or fewer." */
  private static void bushyNoMore() {
    LibraryDesk x = map(2, 64, 2);
    fill(x, 0, 0, 9);
    x.map(0, 2, 0, 0);
    x.map(0, 8, 1, -1);
    Check.due(() -> x.map(0, 4, 0, 0), 7);
    Check.still(x, () -> x.map(0, 22, 0, 0), 1);
    x.map(0, 2, 99, 0);
    Check.still(x, () -> x.map(0, 22, 0, 0), 1);
    x.cursor(0);
    x.move(1, 0, 0);
    x.move(1, 5, 0);
    Check.due(() -> x.map(0, 4, 0, 0), 6);
    Check.still(x, () -> x.map(0, 22, 0, 0), 0);
    x.map(0, 0, 50, 0);
    x.map(0, 0, 51, 0);
    Check.still(x, () -> x.map(0, 22, 0, 0), 0);
    x.map(0, 0, 52, 0);
    Check.still(x, () -> x.map(0, 22, 0, 0), 1);
  }

  /** "BINS of a BUSHY one are BUSHY if they have more than 6": of 13 keys 7 and 6, of 14 twice 7, of 12 twice 6. */
  private static void bushyOnesDoubled() {
    int[][] parts = {{7, 6, 1}, {7, 7, 2}, {6, 6, 0}, {6, 7, 1}, {9, 0, 1}, {0, 9, 1}};
    for (int[] p : parts) {
      LibraryDesk x = map(2, 64, 0);
      for (int i = 0; i < p[0]; i++) {
        x.map(0, 0, 128 * i, 0);
      }
      for (int i = 0; i < p[1]; i++) {
        x.map(0, 0, 128 * i + 64, 0);
      }
      Check.due(() -> x.map(0, 22, 0, 0), 1);
      for (int k = 1; k <= 48 - p[0] - p[1]; k++) {
        x.map(0, 0, k, 0);
      }
      Check.due(() -> x.map(0, 4, 0, 0), 48);
      Check.due(() -> x.map(0, 21, 0, 0), 64);
      Check.due(() -> x.map(0, 22, 0, 0), 1);
      x.map(0, 0, 63, 0);
      Check.due(() -> x.map(0, 21, 0, 0), 128);
      Check.due("BUSHY of " + p[0] + " and " + p[1], () -> x.map(0, 22, 0, 0), p[2]);
    }
  }

  /** "h of a key by RULE: 0 itself, 1 it mod 16, 2 7, 3 it * -1640531527; BIN: h ^ (h >>> 16) mod TABLE", mod never below 0. */
  private static void binsByRule() {
    for (int rule = 0; rule < 4; rule++) {
      int[] keys = {-1, 0, 1, 2, 3, 5, 100, 12345, LOW, HIGH, 65536, -65537, 16, 17, -16, 1 << 20};
      for (int k : keys) {
        for (int l : keys) {
          if (k == l) {
            continue;
          }
          LibraryDesk x = map(2, 16, rule, k, l);
          int first = bin(rule, k) <= bin(rule, l) ? k : l;
          Check.due("RULE " + rule + " of " + k + " and " + l, () -> x.item(0, 0, 0), first);
        }
      }
    }
  }

  private static int bin(int rule, int key) {
    long h = rule == 0 ? key : rule == 1 ? Math.floorMod(key, 16) : rule == 2 ? 7 : (int) (key * -1640531527L);
    long low = h & 0xFFFFFFFFL;
    return (int) ((low ^ low >> 16) % 16);
  }

  /** "Order: by BINS, within one by coming"; "each BIN's keys go to their BINS in their order". */
  private static void orderOfBins() {
    LibraryDesk x = map(2, 4, 0, 7, 3, 5);
    Check.keys(x, 0, 5, 7, 3);
    x.map(0, 2, 7, 0);
    x.map(0, 0, 7, 0);
    Check.keys(x, 0, 5, 3, 7);
    x.map(0, 0, 11, 0);
    Check.due(() -> x.map(0, 21, 0, 0), 8);
    Check.keys(x, 0, 3, 11, 5, 7);
    x.map(0, 0, 3, 9);
    Check.keys(x, 0, 3, 11, 5, 7);
  }

  /** "with b 1 a key that op 0, 1, 6, 7, 8 finds there goes to the end". */
  private static void linkedByUse() {
    for (int op = 0; op <= 19; op++) {
      if (op == 2 || op == 5 || op >= 12 && op <= 17) {
        continue;
      }
      boolean uses = op == 0 || op == 1 || op == 6 || op == 7 || op == 8;
      int k = op;
      for (int b = 0; b < 2; b++) {
        LibraryDesk x = map(3, 0, b, 1, 2, 3);
        Check.of(() -> x.map(0, k, 1, 0));
        Check.keys(x, 0, uses && b == 1 ? new int[] {2, 3, 1} : new int[] {1, 2, 3});
        Check.of(() -> x.map(0, k, 9, 0));
        x.map(0, 2, 9, 0);
        Check.due(() -> x.map(0, 4, 0, 0), 3);
        Check.due(() -> x.item(0, 2, 0), uses && b == 1 ? 1 : 3);
      }
    }
    LibraryDesk y = map(3, 0, 1, 1, 2, 3);
    y.make(4, 0, 0);
    y.map(1, 0, 2, 5);
    y.map(1, 0, 1, 5);
    y.map(0, 20, 0, 1);
    Check.keys(y, 0, 3, 1, 2);
    y.map(1, 19, 0, 0);
    Check.keys(y, 0, 3, 1, 2);
    LibraryDesk z = map(3, 0, 1, 1, 2);
    Check.due(() -> z.map(0, 8, 1, -10), NONE);
    Check.keys(z, 0, 2);
  }

  /** "(a CHANGE, if it was not there)". */
  private static void useIsAChange() {
    for (int op : new int[] {0, 1, 6, 7, 8}) {
      LibraryDesk x = map(3, 0, 1, 1, 2, 3);
      x.cursor(0);
      Check.of(() -> x.map(0, op, 3, 5));
      Check.due(() -> x.move(1, 2, 0), 1);
      Check.of(() -> x.map(0, op, 2, 5));
      Check.state(x, () -> x.move(1, 2, 0));
      LibraryDesk y = map(3, 0, 0, 1, 2, 3);
      y.cursor(0);
      Check.of(() -> y.map(0, op, 1, 5));
      Check.due(() -> y.move(1, 2, 0), 1);
    }
  }

  /** "10, 11: the first, last key; 12, 13: likewise, and it goes (10 .. 13: empty; not of HASH)." */
  private static void emptyMaps() {
    for (int kind = 2; kind <= 4; kind++) {
      LibraryDesk x = map(kind, 0, 0);
      x.make(4, 0, 0);
      for (int op = 10; op <= 13; op++) {
        int k = op;
        if (kind == 2) {
          Check.unsupported(x, () -> x.map(0, k, 0, 0));
        } else {
          Check.none(x, () -> x.map(0, k, 0, 0));
        }
      }
      for (int op : new int[] {3, 4, 5, 9, 18}) {
        Check.still(x, () -> x.map(0, op, 0, 0), 0);
      }
      for (int op : new int[] {1, 2, 7}) {
        Check.still(x, () -> x.map(0, op, 0, 0), NONE);
      }
      Check.still(x, () -> x.map(0, 19, 0, 1), 1);
      Check.still(x, () -> x.map(0, 20, 0, 1), 0);
    }
    for (int kind = 3; kind <= 4; kind++) {
      LibraryDesk x = map(kind, 0, 0, 5, 6, 7);
      Check.still(x, () -> x.map(0, 10, 0, 0), 5);
      Check.still(x, () -> x.map(0, 11, 0, 0), 7);
      Check.due(() -> x.map(0, 12, 0, 0), 5);
      Check.due(() -> x.map(0, 13, 0, 0), 7);
      Check.due(() -> x.map(0, 13, 0, 0), 6);
      Check.none(x, () -> x.map(0, 12, 0, 0));
    }
    LibraryDesk x = map(4, 0, 0, 5, 6, 7);
    x.view(0, 3, 8, 0);
    x.view(0, 2, 5, 0);
    x.view(0, 4, 0, 0);
    for (int op = 10; op <= 13; op++) {
      int k = op;
      Check.none(x, () -> x.map(1, k, 0, 0));
      Check.none(x, () -> x.map(2, k, 0, 0));
    }
    Check.due(() -> x.map(3, 12, 0, 0), 7);
    Check.due(() -> x.map(3, 13, 0, 0), 5);
  }

  /** "(TREE, SUBMAP alone)" of 14 .. 17 and 23; "(HASH alone)" of 21, 22; "not of HASH" of 10 .. 13. */
  private static void notOfThatKind() {
    for (int kind = 2; kind <= 5; kind++) {
      LibraryDesk x = map(Math.min(kind, 4), 0, 0, 1, 2);
      int o = kind == 5 ? x.view(0, 4, 0, 0) : 0;
      for (int op = 10; op <= 23; op++) {
        int k = op;
        boolean not = op <= 13 ? kind == 2 : op <= 17 || op == 23 ? kind < 4 : (op == 21 || op == 22) && kind != 2;
        if (not) {
          Check.unsupported(x, () -> x.map(o, k, 0, 0));
        } else if (op != 20) {
          Check.same("map " + op, Check.of(() -> x.map(o, k, 0, 0)).startsWith("throws"), false);
          x.map(0, 0, 1, 10);
          x.map(0, 0, 2, 20);
        }
      }
    }
  }

  /** 8: "VALUE b more (ints)"; 18: "the sum of key ^ VALUE of all (ints)". */
  private static void valuesWrap() {
    LibraryDesk x = map(2, 0, 0);
    x.map(0, 0, 1, HIGH);
    Check.due(() -> x.map(0, 8, 1, 1), LOW);
    Check.due(() -> x.map(0, 8, 1, -1), HIGH);
    Check.due(() -> x.map(0, 8, 1, HIGH), -2);
    x.map(0, 0, 1, LOW);
    Check.due(() -> x.map(0, 8, 1, LOW), NONE);
    Check.due(() -> x.map(0, 4, 0, 0), 0);
    x.map(0, 0, HIGH, 0);
    Check.due(() -> x.map(0, 18, 0, 0), HIGH);
    x.map(0, 0, 1, 0);
    Check.due(() -> x.map(0, 18, 0, 0), LOW);
    x.map(0, 0, -1, -1);
    Check.due(() -> x.map(0, 18, 0, 0), LOW);
  }

  /** 8: "if that gives 0 it goes; b, if a is not there: VALUE then, NONE if it went". */
  private static void valuesThatGiveNought() {
    for (int kind = 2; kind <= 4; kind++) {
      LibraryDesk x = map(kind, 0, 0);
      Check.due(() -> x.map(0, 8, 5, 3), 3);
      Check.due(() -> x.map(0, 8, 5, -1), 2);
      Check.still(x, () -> x.map(0, 8, 5, 0), 2);
      Check.due(() -> x.map(0, 8, 5, -2), NONE);
      Check.still(x, () -> x.map(0, 3, 5, 0), 0);
      Check.due(() -> x.map(0, 8, 5, 0), 0);
      Check.still(x, () -> x.map(0, 3, 5, 0), 1);
      Check.due(() -> x.map(0, 8, 5, 0), NONE);
      Check.still(x, () -> x.map(0, 4, 0, 0), 0);
    }
  }

  /** 0, 1, 2, 6, 7: "NONE without"; a VALUE of 0 is one. */
  private static void noKeyThere() {
    for (int kind = 2; kind <= 4; kind++) {
      LibraryDesk x = map(kind, 0, 0);
      Check.still(x, () -> x.map(0, 1, 5, 0), NONE);
      Check.still(x, () -> x.map(0, 2, 5, 0), NONE);
      Check.still(x, () -> x.map(0, 7, 5, 9), NONE);
      Check.due(() -> x.map(0, 6, 5, 0), NONE);
      Check.still(x, () -> x.map(0, 1, 5, 0), 0);
      Check.still(x, () -> x.map(0, 6, 5, 9), 0);
      Check.due(() -> x.map(0, 7, 5, 9), 0);
      Check.due(() -> x.map(0, 0, 5, LOW), 9);
      Check.due(() -> x.map(0, 2, 5, 0), LOW);
      Check.due(() -> x.map(0, 0, 5, 1), NONE);
      Check.due(() -> x.map(0, 9, 1, 0), 1);
      Check.due(() -> x.map(0, 9, 2, 0), 0);
    }
  }

  private static void nearest(LibraryDesk x, int o, int key, long... due) {
    for (int i = 0; i < 4; i++) {
      int op = 14 + i;
      Check.due("map " + op + " of " + key, () -> x.map(o, op, key, 0), due[i]);
    }
    Check.due("map 23 of " + key, () -> x.map(o, 23, key, 0), due[4]);
  }

  /** "14 .. 17: the key nearest to a that is before, before or alike, alike or behind, behind, NONE without"; 23. */
  private static void nearestKeys() {
    LibraryDesk x = map(4, 0, 0, 10, 20, 30);
    nearest(x, 0, 9, NONE, NONE, 10, 10, 0);
    nearest(x, 0, 10, NONE, 10, 10, 20, 0);
    nearest(x, 0, 11, 10, 10, 20, 20, 1);
    nearest(x, 0, 30, 20, 30, 30, NONE, 2);
    nearest(x, 0, 31, 30, 30, NONE, NONE, 3);
    nearest(x, 0, LOW, NONE, NONE, 10, 10, 0);
    nearest(x, 0, HIGH, 30, 30, NONE, NONE, 3);
    x.view(0, 1, 15, 30);
    nearest(x, 1, 10, NONE, NONE, 20, 20, 0);
    nearest(x, 1, 20, NONE, 20, 20, NONE, 0);
    nearest(x, 1, 21, 20, 20, NONE, NONE, 1);
    nearest(x, 1, 30, 20, 20, NONE, NONE, 1);
    nearest(x, 1, HIGH, 20, 20, NONE, NONE, 1);
    LibraryDesk y = map(4, 0, 0);
    nearest(y, 0, 0, NONE, NONE, NONE, NONE, 0);
    LibraryDesk z = map(4, 1, 0, 10, 20, 30);
    nearest(z, 0, 20, 30, 20, 20, 10, 1);
    nearest(z, 0, 31, NONE, NONE, 30, 30, 0);
    LibraryDesk w = map(4, 2, 0, LOW, HIGH, -HIGH);
    nearest(w, 0, HIGH, -HIGH, HIGH, HIGH, LOW, 1);
    nearest(w, 0, LOW, HIGH, LOW, LOW, NONE, 2);
  }

  /** Before and behind are those of its order, in a SUBMAP that is turned round the other way. */
  private static void turnedNearest() {
    LibraryDesk x = map(4, 0, 0, 10, 20, 30);
    x.view(0, 4, 0, 0);
    nearest(x, 1, 9, 10, 10, NONE, NONE, 3);
    nearest(x, 1, 10, 20, 10, 10, NONE, 2);
    nearest(x, 1, 11, 20, 20, 10, 10, 2);
    nearest(x, 1, 30, NONE, 30, 30, 20, 0);
    nearest(x, 1, 31, NONE, NONE, 30, 30, 0);
    x.view(1, 1, 25, 10);
    nearest(x, 2, 30, NONE, NONE, 20, 20, 0);
    nearest(x, 2, 20, NONE, 20, 20, NONE, 0);
    nearest(x, 2, 10, 20, 20, NONE, NONE, 1);
  }

  /** "Keys are the same if equal; in a TREE if alike"; "its key stays as it was". */
  private static void alikeKeys() {
    LibraryDesk x = map(4, 3, 0, 13, 4);
    Check.due(() -> x.map(0, 0, 23, 7), 130);
    Check.due(() -> x.map(0, 6, -7, 8), 7);
    Check.due(() -> x.map(0, 8, 3, 1), 8);
    Check.keys(x, 0, 13, 4);
    Check.still(x, () -> x.map(0, 3, -7, 0), 1);
    Check.still(x, () -> x.map(0, 15, 3, 0), 13);
    Check.still(x, () -> x.map(0, 23, 24, 0), 1);
    Check.due(() -> x.map(0, 2, 33, 0), 8);
    Check.due(() -> x.map(0, 0, 33, 1), NONE);
    Check.keys(x, 0, 33, 4);
    LibraryDesk y = map(4, 2, 0, 5);
    Check.due(() -> y.map(0, 0, -5, 1), NONE);
    Check.keys(y, 0, -5, 5);
  }

  /** 19: "1 if MAP b has the same keys with the same VALUES (asked by b's)". */
  private static void sameMaps() {
    LibraryDesk x = map(2, 0, 0, 3, 4);
    x.make(4, 3, 0);
    x.map(1, 0, 13, 30);
    x.map(1, 0, 14, 40);
    Check.still(x, () -> x.map(0, 19, 0, 1), 1);
    Check.still(x, () -> x.map(1, 19, 0, 0), 0);
    Check.still(x, () -> x.map(0, 19, 0, 0), 1);
    x.map(1, 0, 4, 41);
    Check.still(x, () -> x.map(0, 19, 0, 1), 0);
    x.map(1, 0, 4, 40);
    x.map(1, 0, 5, 50);
    Check.still(x, () -> x.map(0, 19, 0, 1), 0);
    x.view(1, 2, 5, 0);
    Check.still(x, () -> x.map(0, 19, 0, 2), 1);
    x.map(0, 2, 4, 0);
    Check.still(x, () -> x.map(0, 19, 0, 2), 0);
  }

  /** 20: "(not itself: IllegalArgumentException)". */
  private static void allOfItself() {
    for (int kind = 2; kind <= 4; kind++) {
      LibraryDesk x = map(kind, 0, 0, 1, 2);
      Check.illegal(x, () -> x.map(0, 20, 0, 0));
    }
    LibraryDesk x = map(4, 0, 0, 1, 2);
    x.view(0, 4, 0, 0);
    Check.illegal(x, () -> x.map(1, 20, 0, 1));
    Check.still(x, () -> x.map(0, 20, 0, 1), 2);
    Check.still(x, () -> x.map(1, 20, 0, 0), 2);
    LibraryDesk y = map(3, 0, 1, 1, 2);
    y.make(3, 0, 0);
    Check.due(() -> y.map(1, 20, 0, 0), 2);
    Check.due(() -> y.map(0, 20, 0, 1), 2);
    Check.keys(y, 0, 1, 2);
  }

  /** 20: "what would be thrown is thrown before any comes: IllegalArgumentException, then full". */
  private static void allBeforeAny() {
    LibraryDesk x = map(4, 0, 0);
    x.view(0, 1, 0, 10);
    x.make(3, 0, 0);
    x.map(2, 0, 1, 5);
    x.map(2, 0, 9, 5);
    x.map(2, 0, 10, 5);
    Check.illegal(x, () -> x.map(1, 20, 0, 2));
    Check.due(() -> x.map(0, 4, 0, 0), 0);
    x.map(2, 2, 10, 0);
    Check.due(() -> x.map(1, 20, 0, 2), 2);
    Check.keys(x, 0, 1, 9);
    LibraryDesk y = map(4, 0, 0);
    fill(y, 0, 0, 999);
    y.view(0, 2, 2000, 0);
    y.make(2, 0, 0);
    y.map(2, 0, 1000, 1);
    y.map(2, 0, 1001, 1);
    Check.state(y, () -> y.map(1, 20, 0, 2));
    y.map(2, 0, 2000, 1);
    Check.illegal(y, () -> y.map(1, 20, 0, 2));
  }

  /** view 1 .. 3: "from a to before b in its order (b before a: IllegalArgumentException)"; "before a"; "a and behind". */
  private static void submapEdges() {
    LibraryDesk x = map(4, 0, 0, 10, 20, 30);
    Check.illegal(x, () -> x.view(0, 1, 20, 19));
    Check.illegal(x, () -> x.view(0, 1, HIGH, LOW));
    Check.due(() -> x.view(0, 1, 10, 30), 1);
    Check.keys(x, 1, 10, 20);
    Check.due(() -> x.view(0, 1, 11, 31), 2);
    Check.keys(x, 2, 20, 30);
    Check.due(() -> x.view(0, 1, 20, 20), 3);
    Check.keys(x, 3);
    Check.due(() -> x.view(0, 2, 20, LOW), 4);
    Check.keys(x, 4, 10);
    Check.due(() -> x.view(0, 3, 20, LOW), 5);
    Check.keys(x, 5, 20, 30);
    Check.due(() -> x.view(0, 1, LOW, HIGH), 6);
    Check.keys(x, 6, 10, 20, 30);
    x.map(0, 0, HIGH, 0);
    x.map(0, 0, LOW, 0);
    Check.keys(x, 6, LOW, 10, 20, 30);
    Check.illegal(x, () -> x.map(6, 0, HIGH, 0));
    Check.illegal(x, () -> x.map(4, 0, 20, 1));
    Check.due(() -> x.map(0, 2, HIGH, 0), 0);
    Check.illegal(x, () -> x.map(6, 0, HIGH, 0));
    LibraryDesk y = map(4, 1, 0, 10, 20, 30);
    Check.illegal(y, () -> y.view(0, 1, 19, 20));
    Check.due(() -> y.view(0, 1, 30, 10), 1);
    Check.keys(y, 1, 30, 20);
    LibraryDesk z = map(4, 3, 0, 11, 22, 33);
    Check.illegal(z, () -> z.view(0, 1, 2, 11));
    Check.due(() -> z.view(0, 1, 12, 3), 1);
    Check.keys(z, 1, 22);
    Check.due(() -> z.view(0, 1, 2, 12), 2);
    Check.keys(z, 2);
  }

  /** view 4: "all, turned round"; "Its order is o's, with 4 turned". */
  private static void turnedSubmaps() {
    LibraryDesk x = map(4, 0, 0, 10, 20, 30);
    x.view(0, 4, LOW, HIGH);
    Check.keys(x, 1, 30, 20, 10);
    Check.illegal(x, () -> x.view(1, 1, 19, 20));
    Check.due(() -> x.view(1, 1, 30, 10), 2);
    Check.keys(x, 2, 30, 20);
    Check.due(() -> x.view(1, 2, 20, 0), 3);
    Check.keys(x, 3, 30);
    Check.due(() -> x.view(1, 3, 20, 0), 4);
    Check.keys(x, 4, 20, 10);
    Check.due(() -> x.view(2, 4, 0, 0), 5);
    Check.keys(x, 5, 20, 30);
    Check.due(() -> x.view(5, 1, 20, 30), 6);
    Check.keys(x, 6, 20);
    Check.due(() -> x.view(1, 1, 20, 20), 7);
    Check.keys(x, 7);
    Check.due(() -> x.map(2, 0, 11, 0), NONE);
    Check.illegal(x, () -> x.map(2, 0, 10, 0));
    Check.illegal(x, () -> x.map(2, 0, 9, 0));
    Check.keys(x, 1, 30, 20, 11, 10);
    Check.due(() -> x.map(1, 5, 0, 0), 4);
    Check.keys(x, 0);
  }

  /** SUBMAPS that can have no key, or have none. */
  private static void emptySubmaps() {
    LibraryDesk x = map(4, 0, 0, 10, 20, 30);
    x.view(0, 1, 20, 20);
    x.view(0, 2, 10, 0);
    x.view(2, 3, 30, 0);
    x.view(3, 4, 0, 0);
    for (int o = 1; o <= 4; o++) {
      int at = o;
      for (int op : new int[] {3, 4, 5, 9, 18, 23}) {
        Check.still(x, () -> x.map(at, op, 20, 0), 0);
      }
      for (int op : new int[] {1, 2, 7, 14, 15, 16, 17}) {
        Check.still(x, () -> x.map(at, op, 20, 0), NONE);
      }
      Check.still(x, () -> x.map(0, 20, 0, at), 0);
      Check.beyond(x, () -> x.item(at, 0, 0));
    }
    for (int o : new int[] {1, 3, 4}) {
      for (int key : new int[] {LOW, 10, 19, 20, 25, 30, HIGH}) {
        Check.illegal(x, () -> x.map(o, 0, key, 0));
      }
    }
    x.cursor(3);
    Check.none(x, () -> x.move(5, 0, 0));
    Check.still(x, () -> x.move(5, 2, 0), 0);
    Check.due(() -> x.map(2, 0, LOW, 0), NONE);
    Check.keys(x, 2, LOW);
  }

  /** "SUBMAP of just those keys of o, that are or come": an inner one has no more than the outer one. */
  private static void submapsOfSubmaps() {
    LibraryDesk x = map(4, 0, 0, 10, 20, 30, 40);
    x.view(0, 1, 20, 40);
    x.view(1, 3, 10, 0);
    Check.keys(x, 2, 20, 30);
    x.view(1, 2, 99, 0);
    Check.keys(x, 3, 20, 30);
    x.view(1, 1, 0, 99);
    Check.keys(x, 4, 20, 30);
    x.view(1, 1, 20, 40);
    Check.keys(x, 5, 20, 30);
    x.view(1, 3, 21, 0);
    Check.keys(x, 6, 30);
    for (int o = 1; o <= 5; o++) {
      int at = o;
      Check.illegal(x, () -> x.map(at, 0, 19, 0));
      Check.illegal(x, () -> x.map(at, 0, 41, 0));
      Check.still(x, () -> x.map(at, 1, 40, 0), NONE);
    }
    Check.due(() -> x.map(0, 2, 40, 0), 400);
    Check.illegal(x, () -> x.map(5, 0, 40, 0));
    Check.illegal(x, () -> x.map(6, 0, 20, 0));
    Check.illegal(x, () -> x.map(3, 6, 98, 0));
    Check.due(() -> x.map(5, 0, 39, 0), NONE);
    Check.keys(x, 1, 20, 30, 39);
    Check.due(() -> x.map(4, 5, 0, 0), 3);
    Check.keys(x, 0, 10);
    LibraryDesk y = map(4, 0, 0, 1, 2, 3);
    y.view(0, 4, 0, 0);
    y.view(1, 2, 1, 0);
    y.view(2, 3, 2, 0);
    Check.keys(y, 3, 2);
    y.view(2, 4, 0, 0);
    y.view(4, 3, 1, 0);
    Check.keys(y, 5, 2, 3);
    Check.illegal(y, () -> y.map(3, 0, 0, 0));
    y.map(0, 2, 1, 0);
    Check.illegal(y, () -> y.map(5, 0, 1, 0));
  }

  /** "A key that would come and is none of these: IllegalArgumentException"; what looks or goes alone is not refused. */
  private static void keysThatAreNoneOfThese() {
    LibraryDesk x = map(4, 0, 0, 10, 20, 30);
    x.view(0, 1, 15, 25);
    for (int key : new int[] {10, 14, 25, 30}) {
      for (int op : new int[] {0, 6, 8}) {
        Check.illegal(x, () -> x.map(1, op, key, 5));
      }
      for (int op : new int[] {1, 2, 7}) {
        Check.still(x, () -> x.map(1, op, key, 5), NONE);
      }
      Check.still(x, () -> x.map(1, 3, key, 5), 0);
    }
    Check.due(() -> x.map(1, 0, 15, 5), NONE);
    Check.due(() -> x.map(1, 0, 24, 5), NONE);
    Check.keys(x, 1, 15, 20, 24);
    Check.due(() -> x.map(1, 9, 5, 0), 2);
    Check.due(() -> x.map(1, 18, 0, 0), (15 ^ 5) + (20 ^ 200) + (24 ^ 5));
    Check.due(() -> x.map(1, 2, 20, 0), 200);
    Check.keys(x, 0, 10, 15, 24, 30);
    x.map(0, 0, 16, 1);
    Check.keys(x, 1, 15, 16, 24);
  }

  /** "kind .. 1 .. 4 of TREE, SUBMAP (else IllegalArgumentException)". */
  private static void viewKinds() {
    LibraryDesk x = map(4, 0, 0, 1);
    x.view(0, 4, 0, 0);
    for (int kind : new int[] {-1, 0, 5, LOW, HIGH}) {
      Check.illegal(x, () -> x.view(0, kind, 0, 0));
      Check.illegal(x, () -> x.view(1, kind, 0, 0));
    }
    Check.due(() -> x.view(0, 2, 0, -9), 2);
    Check.due(() -> x.view(0, 3, 0, -9), 3);
    Check.due(() -> x.view(0, 4, 0, -9), 4);
  }

  /** move of MAPS: 0 "the next one .. (none: NoSuchElementException)", 2 "1 if there is one next"; 1, 3, 4, 7 are not for them. */
  private static void cursorsAtTheEnd() {
    for (int kind = 2; kind <= 5; kind++) {
      LibraryDesk x = map(Math.min(kind, 4), 0, 0, 1, 2);
      int o = kind == 5 ? x.view(0, 4, 0, 0) : 0;
      int c = x.cursor(o);
      for (int op : new int[] {1, 3, 4, 7}) {
        Check.unsupported(x, () -> x.move(c, op, 0));
      }
      Check.illegal(x, () -> x.move(c, 9, 0));
      Check.illegal(x, () -> x.move(c, -1, 0));
      Check.still(x, () -> x.move(c, 2, 0), 1);
      Check.due(() -> x.move(c, 0, 0), kind == 5 ? 2 : 1);
      Check.due(() -> x.move(c, 0, 0), kind == 5 ? 1 : 2);
      Check.still(x, () -> x.move(c, 2, 0), 0);
      Check.none(x, () -> x.move(c, 0, 0));
      Check.still(x, () -> x.move(c, 8, 0), kind == 5 ? 10 : 20);
      Check.due(() -> x.move(c, 5, 0), kind == 5 ? 1 : 2);
      Check.none(x, () -> x.move(c, 0, 0));
      Check.due(() -> x.map(0, 4, 0, 0), 1);
    }
    LibraryDesk y = map(2, 0, 0);
    y.cursor(0);
    Check.none(y, () -> y.move(1, 0, 0));
    Check.still(y, () -> y.move(1, 2, 0), 0);
  }

  /** "5, 6, 8 without PASSED: IllegalStateException"; 6 "(MAP: its VALUE)". */
  private static void passedKeys() {
    LibraryDesk x = map(4, 0, 0, 1, 2, 3);
    x.cursor(0);
    for (int op : new int[] {5, 6, 8}) {
      Check.state(x, () -> x.move(1, op, 0));
    }
    x.move(1, 0, 0);
    Check.due(() -> x.move(1, 6, 7), 10);
    Check.still(x, () -> x.move(1, 8, 0), 7);
    Check.due(() -> x.move(1, 5, 0), 1);
    for (int op : new int[] {5, 6, 8}) {
      Check.state(x, () -> x.move(1, op, 0));
    }
    Check.due(() -> x.move(1, 0, 0), 2);
    Check.due(() -> x.move(1, 5, 0), 2);
    Check.due(() -> x.move(1, 0, 0), 3);
    Check.due(() -> x.move(1, 6, LOW), 30);
    Check.keys(x, 0, 3);
    Check.due(() -> x.map(0, 1, 3, 0), LOW);
  }

  /** "(MAP: CHANGES, of a SUBMAP those of the TREE)": "how often keys came or went". */
  private static void staleCursors() {
    int[][] stale = {{0, 9, 1}, {2, 2, 0}, {5, 0, 0}, {6, 9, 1}, {8, 9, 1}, {8, 2, -20}, {12, 0, 0}, {13, 0, 0}};
    for (int[] s : stale) {
      LibraryDesk x = map(4, 0, 0, 1, 2, 3);
      x.view(0, 2, 2, 0);
      x.cursor(1);
      x.cursor(0);
      x.map(0, s[0], s[1], s[2]);
      for (int op : new int[] {0, 2, 5, 6, 8}) {
        Check.state(x, () -> x.move(2, op, 0));
        Check.state(x, () -> x.move(3, op, 0));
      }
    }
    int[][] fresh = {{0, 2, 1}, {1, 2, 0}, {2, 9, 0}, {3, 2, 0}, {4, 0, 0}, {6, 2, 0}, {7, 2, 5}, {7, 9, 5}, {8, 2, 1}, {9, 2, 0}, {18, 0, 0}, {19, 0, 0}, {14, 2, 0}, {23, 2, 0}};
    for (int[] f : fresh) {
      LibraryDesk x = map(4, 0, 0, 1, 2, 3);
      x.cursor(0);
      x.map(0, f[0], f[1], f[2]);
      Check.due("CURSOR behind " + f[0], () -> x.move(1, 0, 0), 1);
    }
    LibraryDesk x = map(4, 0, 0, 1, 2, 3);
    x.view(0, 3, 2, 0);
    x.cursor(1);
    x.cursor(0);
    x.move(2, 0, 0);
    x.move(2, 5, 0);
    Check.due(() -> x.move(2, 0, 0), 3);
    Check.state(x, () -> x.move(3, 0, 0));
    x.map(0, 0, 2, 0);
    x.map(0, 2, 2, 0);
    Check.state(x, () -> x.move(2, 8, 0));
  }

  /** A map of keys 0 .. n - 1 comes by one call. */
  private static int many(LibraryDesk x, int n) {
    Check.tape(x, "range 0 " + n + " | group 1000");
    return (int) x.stream();
  }

  /** 20: "full by how many new keys would come": those that are there, the first one too, and alike ones do not count. */
  private static void fullByNewKeysAlone() {
    int[][] kinds = {{2, 0, 0}, {2, 0, 3}, {3, 0, 0}, {3, 0, 1}, {4, 0, 0}, {4, 1, 0}, {4, 2, 0}};
    for (int[] m : kinds) {
      LibraryDesk x = map(m[0], m[1], m[2]);
      int all = many(x, 1000);
      Check.due(() -> x.map(0, 20, 0, all), 1000);
      x.make(3, 0, 0);
      x.map(2, 0, (int) x.item(0, 0, 0), -5);
      Check.due(() -> x.map(0, 20, 0, 2), 1);
      Check.due(() -> x.map(0, 9, -5, 0), 1);
      x.map(2, 0, (int) x.item(0, 999, 0), -5);
      x.map(2, 0, 1000, -5);
      Check.state(x, () -> x.map(0, 20, 0, 2));
      Check.due(() -> x.map(2, 2, 1000, 0), -5);
      Check.due(() -> x.map(0, 20, 0, 2), m[0] == 3 && m[2] == 1 ? 1 : 2);
    }
    LibraryDesk x = map(4, 3, 0, 70);
    Check.tape(x, "range 0 1000 | map * 10 | map + 1 | group 99999");
    Check.due(() -> x.stream(), 1);
    Check.due(() -> x.map(1, 4, 0, 0), 1000);
    Check.due(() -> x.map(0, 20, 0, 1), 1000);
    Check.due(() -> x.map(0, 4, 0, 0), 2);
    Check.due(() -> x.item(0, 0, 0), 70);
  }

  /** LIMIT 1 is above 0, too: all come, and the last one stays. */
  private static void limitOfOne() {
    LibraryDesk x = map(3, 1, 0, -7);
    int all = many(x, 1000);
    Check.due(() -> x.map(0, 20, 0, all), 1000);
    Check.due(() -> x.map(0, 4, 0, 0), 1);
    Check.due(() -> x.item(0, 0, 0), x.item(all, 999, 0));
    LibraryDesk y = map(3, 1000, 0);
    int more = many(y, 1000);
    y.map(0, 0, -1, 5);
    Check.due(() -> y.map(0, 20, 0, more), 1000);
    Check.due(() -> y.map(0, 4, 0, 0), 1000);
    Check.due(() -> y.map(0, 3, -1, 0), 0);
  }

  /** BUSHY BINS of each number, the last one too: one more with the ninth key, one less with the seventh. */
  private static void bushyBinsFarBehind() {
    int[] bins = {0, 1, 62, 63, 64, 65, 127, 128, 511, 512, 1022, 1023};
    LibraryDesk x = map(2, 1000, 0);
    for (int i = 0; i < 9; i++) {
      for (int k = 0; k < bins.length; k++) {
        x.map(0, 0, bins[k] + 1024 * i, 0);
        int bushy = i == 8 ? k + 1 : 0;
        Check.due("BUSHY with BIN " + bins[k], () -> x.map(0, 22, 0, 0), bushy);
      }
    }
    Check.due(() -> x.map(0, 21, 0, 0), 1024);
    for (int i = 0; i < 3; i++) {
      for (int k = 0; k < bins.length; k++) {
        x.map(0, 2, bins[k] + 1024 * (8 - 4 * i), 0);
        int bushy = i == 2 ? bins.length - 1 - k : bins.length;
        Check.due("BUSHY without BIN " + bins[k], () -> x.map(0, 22, 0, 0), bushy);
      }
    }
  }

  /** A BIN is BUSHY by its own keys, not by those of the BINS beside it; by one that goes none becomes BUSHY. */
  private static void bushyOnesBesideOthers() {
    LibraryDesk x = map(2, 64, 0);
    for (int bin = 4; bin <= 6; bin++) {
      for (int i = 0; i < 8; i++) {
        x.map(0, 0, bin + 128 * (i / 2) + 64 * (i % 2), 0);
      }
    }
    Check.due(() -> x.map(0, 22, 0, 0), 0);
    x.map(0, 2, 5, 0);
    Check.due(() -> x.map(0, 22, 0, 0), 0);
    x.map(0, 0, 5, 0);
    x.map(0, 0, 5 + 128 * 4, 0);
    Check.due(() -> x.map(0, 22, 0, 0), 1);
    x.map(0, 0, 5 + 128 * 5, 0);
    x.map(0, 2, 5 + 64, 0);
    Check.due(() -> x.map(0, 4, 0, 0), 25);
    for (int k = 10; k < 33; k++) {
      x.map(0, 0, k, 0);
    }
    Check.due(() -> x.map(0, 21, 0, 0), 64);
    Check.due(() -> x.map(0, 22, 0, 0), 1);
    x.map(0, 0, 33, 0);
    Check.due(() -> x.map(0, 21, 0, 0), 128);
    Check.due(() -> x.map(0, 22, 0, 0), 0);
    LibraryDesk y = map(2, 64, 0);
    for (int i = 0; i < 9; i++) {
      y.map(0, 0, 8 + 64 * i, 0);
      y.map(0, 0, 7 + 64 * (i % 8), 0);
      y.map(0, 0, 9 + 64 * (i % 8), 0);
    }
    Check.due(() -> y.map(0, 22, 0, 0), 1);
    for (int i = 0; i < 3; i++) {
      y.map(0, 2, 8 + 64 * i, 0);
      int bushy = i == 2 ? 0 : 1;
      Check.due(() -> y.map(0, 22, 0, 0), bushy);
    }
    y.map(0, 2, 7, 0);
    Check.due(() -> y.map(0, 22, 0, 0), 0);
  }

  private static boolean isBefore(int order, boolean turned, int k, int l) {
    long p = order == 1 ? -(long) k : order == 3 ? Math.floorMod(k, 10) : order == 2 ? 4L * Math.abs((long) k) + (k < 0 ? 0 : 1) : k;
    long q = order == 1 ? -(long) l : order == 3 ? Math.floorMod(l, 10) : order == 2 ? 4L * Math.abs((long) l) + (l < 0 ? 0 : 1) : l;
    return turned ? q < p : p < q;
  }

  /** Of three SUBMAPS within one another, of each kind and with each edge that is beside or on a key: "just those keys of o, that are or come". */
  private static void submapsOfEachKind() {
    int[][] views = {{1, -1, -1}, {1, -1, 0}, {1, -1, 2}, {1, 0, -1}, {1, 0, 0}, {1, 0, 2}, {1, 2, -1}, {1, 2, 0}, {1, 2, 2}, {2, -1, 9}, {2, 0, 9}, {2, 2, 9}, {3, -1, 9}, {3, 0, 9}, {3, 2, 9}, {4, 9, 9}};
    for (int order = 0; order < 4; order++) {
      for (int n = 0; n < 16 * 16 * 16; n++) {
        int[][] chain = {views[n / 256], views[n / 16 % 16], views[n % 16]};
        submapsWithin(order, chain);
      }
    }
  }

  private static void submapsWithin(int order, int[][] chain) {
    java.util.List<Integer> keys = new java.util.ArrayList<>();
    LibraryDesk x = new LibraryDesk();
    x.make(4, order, 0);
    for (int k = -2; k <= 3; k++) {
      x.map(0, 0, k, 10 * k);
      keys.add(k);
    }
    keys.sort((k, l) -> isBefore(order, false, k, l) ? -1 : 1);
    boolean turned = false;
    int o = 0;
    for (int[] v : chain) {
      int of = o;
      boolean t = turned;
      if (v[0] == 1 && isBefore(order, t, v[2], v[1])) {
        Check.same("from behind to", Check.of(() -> x.view(of, v[0], v[1], v[2])), "throws.IllegalArgumentException");
        return;
      }
      o = x.view(of, v[0], v[1], v[2]);
      keys.removeIf(k -> v[0] != 4 && (v[0] != 2 && isBefore(order, t, k, v[1]) || v[0] == 2 && !isBefore(order, t, k, v[1]) || v[0] == 1 && !isBefore(order, t, k, v[2])));
      if (v[0] == 4) {
        turned = !turned;
        java.util.Collections.reverse(keys);
      }
    }
    String what = "ORDER " + order + ", " + java.util.Arrays.deepToString(chain);
    int s = o;
    Check.due(what, () -> x.map(s, 4, 0, 0), keys.size());
    for (int i = 0; i < keys.size(); i++) {
      int k = i;
      Check.due(what, () -> x.item(s, k, 0), keys.get(k));
    }
    for (int key = -2; key <= 3; key++) {
      int k = key;
      boolean inside = keys.contains(k);
      Check.same(what, Check.of(() -> x.map(s, 0, k, 10 * k)), inside ? "" + 10 * k : "throws.IllegalArgumentException");
      Check.due(what, () -> x.map(s, 1, k, 0), inside ? 10 * k : NONE);
      nearest(x, s, order, turned, keys, k, what);
    }
  }

  private static void nearest(LibraryDesk x, int s, int order, boolean turned, java.util.List<Integer> keys, int k, String what) {
    long[] due = {NONE, NONE, NONE, NONE};
    long before = 0;
    for (int key : keys) {
      boolean ahead = isBefore(order, turned, key, k);
      boolean behind = isBefore(order, turned, k, key);
      before += ahead ? 1 : 0;
      due[0] = ahead ? key : due[0];
      due[1] = behind ? due[1] : key;
      due[2] = due[2] == NONE && !ahead ? key : due[2];
      due[3] = due[3] == NONE && behind ? key : due[3];
    }
    for (int i = 0; i < 4; i++) {
      int op = 14 + i;
      Check.due(what + " nearest " + op, () -> x.map(s, op, k, 0), due[i]);
    }
    Check.due(what + " before", () -> x.map(s, 23, k, 0), before);
  }

  /** 5, 12 and 13 of a SUBMAP: the keys ahead of it and behind it stay, with their VALUES. */
  private static void goneFromASubmapAlone() {
    LibraryDesk x = map(4, 0, 0, 1, 2, 3, 4, 5, 6, 7, 8);
    x.view(0, 1, 3, 7);
    x.view(1, 4, 0, 0);
    Check.due(() -> x.map(1, 12, 0, 0), 3);
    Check.due(() -> x.map(2, 12, 0, 0), 6);
    Check.keys(x, 0, 1, 2, 4, 5, 7, 8);
    Check.due(() -> x.map(2, 5, 0, 0), 2);
    Check.keys(x, 0, 1, 2, 7, 8);
    for (int k : new int[] {1, 2, 7, 8}) {
      Check.still(x, () -> x.map(0, 1, k, 0), 10 * k);
    }
    Check.still(x, () -> x.map(0, 18, 0, 0), (1 ^ 10) + (2 ^ 20) + (7 ^ 70) + (8 ^ 80));
    Check.still(x, () -> x.map(1, 5, 0, 0), 0);
  }
}
