/** Promises 1, 2, 3, 21 (word) and 22. */
public final class DeskTest {
  public static void main(String[] args) {
    fresh();
    tapeAndOut();
    makeInOrder();
    dropWithParts();
    counts();
    Check.end("DeskTest");
  }

  private static void fresh() {
    LibraryDesk x = new LibraryDesk();
    Check.due(() -> x.count(2), 0);
    Check.due(() -> x.count(0), 0);
    Check.due(() -> x.count(1), 0);
    Check.due(() -> x.count(3), -1);
    Check.due(() -> x.count(4), 0);
    Check.due(() -> x.count(5), 0);
    for (int i = 0; i < 24; i++) {
      int o = i;
      Check.due(() -> x.count(10 + o), -1);
      Check.none(() -> x.drop(o));
    }
    for (int i = 0; i < 8; i++) {
      int t = i;
      Check.due(() -> x.look(t, 0), 0);
      Check.due(() -> x.look(t, 2), -1);
      Check.due(() -> x.look(t, 3), -1);
    }
    Check.due(() -> x.dead(), -1);
    Check.due(() -> x.group(0, 0), -1);
    Check.beyond(() -> x.word(0));
  }

  private static void tapeAndOut() {
    LibraryDesk x = new LibraryDesk();
    Check.due(() -> x.feed(0x01020304, -1, 0x61626364, 0, 5), 20);
    Check.due(() -> x.end(20), 20);
    Check.illegal(() -> x.end(21));
    Check.illegal(() -> x.end(-1));
    Check.due(() -> x.count(0), 20);
    int t = x.make(7, 0, 0);
    Check.due(() -> x.text(t, 0, 0, 0), 20);
    Check.due(() -> x.count(0), 0);
    Check.due(() -> x.text(t, 16, 0, 0), 20);
    Check.due(() -> x.word(0), 0x01020304FFFFFFFFL);
    Check.due(() -> x.word(8), 0x6162636400000000L);
    Check.due(() -> x.word(1), 0x020304FFFFFFFF61L);
    Check.due(() -> x.word(19), 5L << 56);
    Check.beyond(() -> x.word(20));
    Check.beyond(() -> x.word(-1));
    for (int i = 0; i < 200; i++) {
      x.feed(i, i, i, i, i);
    }
    Check.due(() -> x.count(0), 4000);
    Check.beyond(() -> x.feed(1, 1, 1, 1, 1));
    Check.due(() -> x.count(0), 4000);
    Check.due(() -> x.end(3981), 3981);
    Check.beyond(() -> x.feed(1, 1, 1, 1, 1));
    Check.due(() -> x.end(3980), 3980);
    Check.due(() -> x.feed(1, 1, 1, 1, 1), 4000);
    Check.due(() -> x.end(0), 0);
  }

  private static void makeInOrder() {
    LibraryDesk x = new LibraryDesk();
    for (int kind : new int[] {-1, 8, 9, 10, 20, 21, Integer.MAX_VALUE, Integer.MIN_VALUE}) {
      Check.illegal(() -> x.make(kind, -1, 0));
    }
    for (int kind : new int[] {0, 1, 2}) {
      Check.negative(() -> x.make(kind, -1, 99));
      Check.negative(() -> x.make(kind, Integer.MIN_VALUE, 0));
      Check.illegal(() -> x.make(kind, 1001, 0));
    }
    int[][] bad = {{2, 0, -1}, {2, 0, 4}, {3, -1, 0}, {3, 1001, 0}, {3, 0, 2}, {3, 0, -1},
        {4, -1, 0}, {4, 4, 0}, {5, 0, 0}, {5, 1001, 0}, {5, 1, 4}, {5, 1, -1}, {13, 0, 2},
        {13, 0, -1}, {15, -1, 0}, {16, 0, 0}, {16, 9, 0}, {17, 0, 0}, {17, 101, 0}};
    for (int[] m : bad) {
      Check.illegal(() -> x.make(m[0], m[1], m[2]));
    }
    Check.due(() -> x.count(2), 0);
    int[][] good = {{0, 1000, -5}, {1, 1000, 77}, {2, 1000, 3}, {3, 1000, 1}, {4, 3, -9},
        {5, 1000, 3}, {6, -1, -1}, {7, -1, -1}, {11, -1, -1}, {12, -1, -1}, {13, -1, 1},
        {14, Integer.MIN_VALUE, 7}, {15, 0, 7}, {16, 8, 7}, {17, 100, 7}, {18, -1, -1}, {19, -1, -1}};
    for (int i = 0; i < good.length; i++) {
      int[] m = good[i];
      Check.due(() -> x.make(m[0], m[1], m[2]), i);
      int o = i;
      Check.due(() -> x.count(10 + o), m[0]);
    }
    for (int i = good.length; i < 24; i++) {
      Check.due(() -> x.make(0, 0, 0), i);
    }
    Check.state(() -> x.make(0, 0, 0));
    Check.state(() -> x.view(0, 0, 0, 0));
    Check.state(() -> x.cursor(0));
    Check.tape(x, "a");
    Check.state(() -> x.pattern());
    Check.tape(x, "range 0 1 | list");
    Check.state(() -> x.stream());
    Check.tape(x, "range 0 1 | group 3");
    Check.state(() -> x.stream());
    Check.tape(x, "range 0 1 | count");
    Check.due(() -> x.stream(), 1);
    Check.illegal(() -> x.make(99, 0, 0));
    Check.negative(() -> x.make(0, -1, 0));
    Check.illegal(() -> x.make(4, 4, 0));
    Check.due(() -> x.drop(7), 1);
    Check.due(() -> x.drop(3), 1);
    Check.due(() -> x.make(6, 0, 0), 3);
    Check.due(() -> x.make(6, 0, 0), 7);
    Check.none(() -> x.drop(24));
    Check.none(() -> x.drop(-1));
  }

  private static void dropWithParts() {
    LibraryDesk x = new LibraryDesk();
    x.make(0, 0, 0);
    x.make(4, 0, 0);
    for (int i = 0; i < 6; i++) {
      x.list(0, 0, i, 0);
      x.map(1, 0, i, i);
    }
    Check.due(() -> x.view(0, 0, 0, 6), 2);
    Check.due(() -> x.view(2, 0, 1, 5), 3);
    Check.due(() -> x.cursor(3), 4);
    Check.due(() -> x.cursor(0), 5);
    Check.due(() -> x.view(1, 1, 0, 5), 6);
    Check.due(() -> x.view(6, 4, 0, 0), 7);
    Check.due(() -> x.cursor(7), 8);
    Check.due(() -> x.count(2), 9);
    Check.due(() -> x.drop(2), 3);
    Check.due(() -> x.count(15), 9);
    Check.due(() -> x.drop(0), 2);
    Check.due(() -> x.drop(1), 4);
    Check.due(() -> x.count(2), 0);
    x.make(0, 0, 0);
    x.make(0, 0, 0);
    Check.due(() -> x.view(1, 0, 0, 0), 2);
    Check.due(() -> x.drop(0), 1);
    Check.due(() -> x.count(2), 2);
    Check.due(() -> x.view(2, 0, 0, 0), 0);
    Check.due(() -> x.drop(1), 3);
    int lock = x.make(13, 0, 0);
    Check.tape(x, "lock 0; wait 0");
    x.thread();
    x.step(0);
    x.step(0);
    Check.state(() -> x.drop(lock));
    Check.none(() -> x.drop(1));
    x.interrupt(0);
    Check.due(() -> x.look(0, 0), 1);
    Check.state(() -> x.drop(lock));
    x.step(0);
    Check.due(() -> x.drop(lock), 1);
  }

  private static void counts() {
    LibraryDesk x = new LibraryDesk();
    for (int what : new int[] {-1, 6, 7, 8, 9, 34, 35, Integer.MAX_VALUE, Integer.MIN_VALUE}) {
      Check.illegal(() -> x.count(what));
    }
    x.tick(7);
    x.tick(Integer.MAX_VALUE);
    Check.due(() -> x.count(5), 7L + Integer.MAX_VALUE);
    Check.tape(x, "ab(");
    Check.unsupported(() -> x.pattern());
    Check.due(() -> x.count(3), 3);
    Check.due(() -> x.count(0), 0);
    Check.none(() -> x.text(0, 11, 0, 0));
    Check.due(() -> x.count(3), 3);
    Check.tape(x, "zz");
    Check.due(() -> x.count(3), 3);
    Check.none(() -> x.text(0, 0, 0, 0));
    Check.due(() -> x.count(0), 0);
    Check.due(() -> x.count(3), -1);
    Check.tape(x, "zz");
    Check.illegal(() -> x.text(x.make(7, 0, 0), 21, 0, 0));
    Check.due(() -> x.count(0), 2);
    Check.none(() -> x.form(5));
    Check.due(() -> x.count(0), 0);
    Check.tape(x, "zz");
    Check.none(() -> x.read(5, 10));
    Check.due(() -> x.count(0), 0);
    Check.tape(x, "zz");
    Check.none(() -> x.replace(5, 5));
    Check.due(() -> x.count(0), 0);
    Check.tape(x, "range 0 9 | filter odd | count");
    Check.due(() -> x.stream(), 4);
    Check.due(() -> x.count(4), 9);
    Check.tape(x, "range 0 9 | filter div 0 | count");
    Check.arithmetic(() -> x.stream());
    Check.due(() -> x.count(4), 9);
  }
}
