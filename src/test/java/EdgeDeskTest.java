/** The edges that the document names of all calls ("Terms"), and of promises 1, 2, 3, 21 (word) and 22. */
public final class EdgeDeskTest {
  private static final int[] FAR = {-1, 24, 25, 100, -24, Integer.MIN_VALUE, Integer.MAX_VALUE};

  /** A call that names OBJECT o; the ones that it names, too, are there. */
  private interface On {
    long go(LibraryDesk x, int o);
  }

  public static void main(String[] args) {
    fresh();
    tapeIsFull();
    endKeepsUpToAll();
    objectsAreNotThere();
    objectsAreOfNoKindForIt();
    notThereIsAheadOfNoKind();
    noKindIsAheadOfTheRest();
    opsThatNoCallHas();
    numbersThatDoNotMatter();
    staleIsAheadOfNotForThatKind();
    leastFreeNumber();
    madeAnew();
    makeRanges();
    makeOrder();
    madeWithWhatDoesNotMatter();
    fullForAllThatMakeOne();
    dropsPartsOfParts();
    tapeIsTaken();
    tapeIsTakenByTexts();
    tapeIsLeft();
    callsBehindOthers();
    placeOfTheLatest();
    words();
    countsHaveAnEnd();
    calledOfTheLatest();
    Check.end("EdgeDeskTest");
  }

  /** "No OBJECTS, no THREADS." */
  private static void fresh() {
    LibraryDesk x = new LibraryDesk();
    for (int what : new int[] {0, 1, 2, 4, 5}) {
      Check.due(() -> x.count(what), 0);
    }
    Check.due(() -> x.count(3), -1);
    for (int o = 0; o < 24; o++) {
      int what = 10 + o;
      Check.due(() -> x.count(what), -1);
    }
    for (int i = 0; i < 8; i++) {
      int t = i;
      long[] none = {0, 0, -1, -1, 0, 0};
      for (int k = 0; k < 6; k++) {
        int what = k;
        Check.due(() -> x.look(t, what), none[k]);
      }
      Check.still(x, () -> x.step(t), 0);
      Check.still(x, () -> x.interrupt(t), 0);
    }
    for (int i = 0; i < 10; i++) {
      int g = i;
      Check.due(() -> x.group(g, 0), -1);
      Check.due(() -> x.group(g, 1), -1);
    }
    Check.still(x, () -> x.run(1, 4000), 0);
    Check.still(x, () -> x.tick(0), 0);
    Check.still(x, () -> x.dead(), -1);
    Check.still(x, () -> x.end(0), 0);
    Check.illegal(x, () -> x.end(1));
    Check.beyond(x, () -> x.word(0));
  }

  /** "THE TAPE has at most 4000 bytes"; "it would have more than 4000: IndexOutOfBoundsException". */
  private static void tapeIsFull() {
    LibraryDesk x = new LibraryDesk();
    for (int i = 1; i <= 199; i++) {
      int size = 20 * i;
      Check.due(() -> x.feed(1, 2, 3, 4, 5), size);
    }
    Check.due(() -> x.feed(1, 2, 3, 4, 5), 4000);
    Check.beyond(x, () -> x.feed(9, 9, 9, 9, 9));
    Check.due(() -> x.count(0), 4000);
    Check.due(() -> x.end(3999), 3999);
    Check.beyond(x, () -> x.feed(9, 9, 9, 9, 9));
    Check.due(() -> x.end(3981), 3981);
    Check.beyond(x, () -> x.feed(9, 9, 9, 9, 9));
    Check.due(() -> x.count(0), 3981);
    Check.due(() -> x.end(3980), 3980);
    Check.due(() -> x.feed(0x80818283, -1, 0, Integer.MIN_VALUE, Integer.MAX_VALUE), 4000);
    x.make(7, 0, 0);
    Check.due(() -> x.text(0, 0, 0, 0), 4000);
    Check.due(() -> x.text(0, 16, 0, 0), 4000);
    Check.due(() -> x.word(3972), 0x0000000400000005L);
    Check.due(() -> x.word(3980), 0x80818283FFFFFFFFL);
    Check.due(() -> x.word(3988), 0x0000000080000000L);
    Check.due(() -> x.word(3996), 0x7FFFFFFF00000000L);
  }

  /** "The TAPE keeps its first n bytes, n 0 .. its length." */
  private static void endKeepsUpToAll() {
    LibraryDesk x = new LibraryDesk();
    x.feed(0x61626364, 0x65666768, 0x696A6B6C, 0x6D6E6F70, 0x71727374);
    Check.illegal(x, () -> x.end(21));
    Check.illegal(x, () -> x.end(-1));
    Check.illegal(x, () -> x.end(Integer.MIN_VALUE));
    Check.illegal(x, () -> x.end(Integer.MAX_VALUE));
    Check.due(() -> x.count(0), 20);
    Check.due(() -> x.end(20), 20);
    Check.due(() -> x.end(19), 19);
    Check.illegal(x, () -> x.end(20));
    Check.due(() -> x.end(2), 2);
    Check.due(() -> x.feed(0x7A7A7A7A, 0, 0, 0, 0), 22);
    Check.due(() -> x.end(4), 4);
    x.make(7, 0, 0);
    x.text(0, 0, 0, 0);
    Check.same("the bytes that were kept", Check.textOf(x, 0), "abzz");
    Check.due(() -> x.count(0), 0);
    Check.due(() -> x.end(0), 0);
    Check.illegal(x, () -> x.end(1));
  }

  private static final On[] CALLS = {
    (x, o) -> x.list(o, 24, 0, 0), (x, o) -> x.list(0, 9, 0, o), (x, o) -> x.list(0, 10, 0, o), (x, o) -> x.list(0, 11, 0, o), (x, o) -> x.list(10, 26, 0, o),
    (x, o) -> x.ring(o, 6, 0), (x, o) -> x.map(o, 4, 0, 0), (x, o) -> x.map(2, 19, 0, o), (x, o) -> x.map(3, 20, 0, o),
    (x, o) -> x.view(o, 99, 0, 0), (x, o) -> x.cursor(o), (x, o) -> x.move(o, 4, 0), (x, o) -> x.heap(o, 4, 0), (x, o) -> x.heap(5, 7, o),
    (x, o) -> x.bits(o, 11, 0, 0), (x, o) -> x.bits(6, 13, 0, o), (x, o) -> x.bits(6, 14, 0, o), (x, o) -> x.bits(6, 15, 0, o), (x, o) -> x.bits(6, 16, 0, o),
    (x, o) -> x.bits(6, 17, 0, o), (x, o) -> x.bits(6, 18, 0, o), (x, o) -> x.item(o, 0, 0), (x, o) -> x.text(o, 11, 0, 0), (x, o) -> x.text(7, 9, o, 0),
    (x, o) -> x.match(o, 7, 2, 0), (x, o) -> x.match(8, o, 2, 0), (x, o) -> x.replace(o, 7), (x, o) -> x.replace(8, o), (x, o) -> x.form(o),
    (x, o) -> x.set(o, 1), (x, o) -> x.whole(o, 0, 11, 11), (x, o) -> x.whole(11, 0, o, 11), (x, o) -> x.whole(11, 0, 11, o),
    (x, o) -> x.decimal(o, 0, 12, 12, 0), (x, o) -> x.decimal(12, 0, o, 12, 0), (x, o) -> x.decimal(12, 0, 12, o, 0),
    (x, o) -> x.tell(o, 0), (x, o) -> x.order(o, 11), (x, o) -> x.order(11, o), (x, o) -> x.order(12, o), (x, o) -> x.read(o, 10), (x, o) -> x.show(o, 10), (x, o) -> x.sync(o, 0)};
  /** The KINDS that o may be of, for each of these. */
  private static final String[] KINDS = {
    " 0 10 ", " 0 10 ", " 0 10 ", " 0 10 ", " 0 10 ",
    " 1 ", " 2 3 4 20 ", " 2 3 4 20 ", " 2 3 4 20 ",
    " 0 10 4 20 ", " 0 10 2 3 4 20 ", " 9 ", " 5 ", " 0 10 ",
    " 6 ", " 6 ", " 6 ", " 6 ", " 6 ",
    " 6 ", " 6 ", " 0 1 2 3 4 10 20 ", " 7 ", " 7 ",
    " 8 ", " 7 ", " 8 ", " 7 ", " 0 10 ",
    " 11 ", " 11 ", " 11 ", " 11 ",
    " 12 ", " 12 ", " 12 ",
    " 11 12 ", " 11 ", " 11 ", " 12 ", " 11 12 ", " 11 12 ", " 13 14 15 16 17 18 19 "};

  /** "OBJECTS have numbers 0 .. 23"; "NoSuchElementException: an OBJECT that a call names .. is not there". */
  private static void objectsAreNotThere() {
    LibraryDesk x = Check.furnished();
    for (On call : CALLS) {
      for (int o : FAR) {
        Check.none(x, () -> call.go(x, o));
      }
      for (int o = 21; o < 24; o++) {
        int free = o;
        Check.none(x, () -> call.go(x, free));
      }
    }
    for (int o : FAR) {
      Check.none(x, () -> x.drop(o));
    }
    Check.none(x, () -> x.drop(21));
    Check.none(x, () -> x.drop(23));
    Check.tape(x, "list 23 | count");
    Check.none(x, () -> x.stream());
    LibraryDesk y = new LibraryDesk();
    for (int o = 0; o < 24; o++) {
      y.make(0, 0, 0);
    }
    Check.due(() -> y.list(23, 24, 0, 0), 0);
    Check.none(y, () -> y.list(24, 24, 0, 0));
  }

  /** "ClassCastException: it is of no KIND that the call is for". */
  private static void objectsAreOfNoKindForIt() {
    for (int i = 0; i < CALLS.length; i++) {
      On call = CALLS[i];
      LibraryDesk x = Check.furnished();
      for (int o = 0; o <= 20; o++) {
        int kind = o;
        if (!KINDS[i].contains(" " + o + " ")) {
          Check.cast(x, () -> call.go(x, kind));
        } else {
          Check.tape(x, "1");
          Check.same("call " + i + " on KIND " + o, Check.of(() -> call.go(x, kind)).equals("throws.ClassCastException"), false);
        }
      }
    }
  }

  /** "NoSuchElementException: an OBJECT that a call names first (o, then others) is not there", ahead of all KINDS. */
  private static void notThereIsAheadOfNoKind() {
    LibraryDesk x = Check.furnished();
    Check.none(x, () -> x.list(1, 9, 0, 23));
    Check.none(x, () -> x.list(23, 9, 0, 1));
    Check.none(x, () -> x.map(0, 19, 0, 23));
    Check.none(x, () -> x.map(0, 20, 0, 23));
    Check.none(x, () -> x.heap(0, 7, 23));
    Check.none(x, () -> x.bits(0, 13, 0, 23));
    Check.none(x, () -> x.text(0, 9, 23, 0));
    Check.none(x, () -> x.match(0, 23, 9, 0));
    Check.none(x, () -> x.match(23, 0, 9, 0));
    Check.none(x, () -> x.replace(0, 23));
    Check.none(x, () -> x.whole(0, 99, 23, 11));
    Check.none(x, () -> x.whole(0, 99, 11, 23));
    Check.none(x, () -> x.decimal(0, 99, 23, 12, 0));
    Check.none(x, () -> x.decimal(0, 99, 12, 23, 0));
    Check.none(x, () -> x.order(0, 23));
    Check.cast(x, () -> x.list(1, 8, 0, 23));
    Check.cast(x, () -> x.map(0, 18, 0, 23));
    Check.cast(x, () -> x.heap(0, 6, 23));
    Check.cast(x, () -> x.bits(0, 12, 0, 23));
    Check.cast(x, () -> x.bits(0, 19, 0, 23));
    Check.cast(x, () -> x.text(0, 10, 23, 0));
    Check.still(x, () -> x.bits(6, 11, 0, 23), 3);
    Check.still(x, () -> x.whole(11, 9, 11, 23) - x.set(11, 5), 0);
    for (int op = 4; op <= 6; op++) {
      int k = op;
      Check.due(() -> x.decimal(12, k, 12, 23, 17), 1);
    }
    Check.none(x, () -> x.decimal(12, 3, 12, 23, 17));
    Check.none(x, () -> x.decimal(12, 7, 12, 23, 17));
  }

  /** ClassCastException comes ahead of IllegalArgumentException and of all that follows. */
  private static void noKindIsAheadOfTheRest() {
    LibraryDesk x = Check.furnished();
    On[] calls = {(y, o) -> y.list(o, 31, 0, 0), (y, o) -> y.list(o, 12, 4, 0), (y, o) -> y.list(o, 2, -1, 0), (y, o) -> y.ring(o, 15, 0), (y, o) -> y.ring(o, 11, 99),
        (y, o) -> y.map(o, 24, 0, 0), (y, o) -> y.map(o, 20, 0, o), (y, o) -> y.map(o, 21, 0, 0), (y, o) -> y.view(o, 5, 0, 0), (y, o) -> y.move(o, 9, 0),
        (y, o) -> y.heap(o, 8, 0), (y, o) -> y.bits(o, 20, 0, 0), (y, o) -> y.bits(o, 0, -1, 0), (y, o) -> y.bits(o, 0, 4096, 0), (y, o) -> y.item(o, -1, 2),
        (y, o) -> y.text(o, 21, 0, 0), (y, o) -> y.text(o, 12, -1, 0), (y, o) -> y.whole(o, 14, 11, 11), (y, o) -> y.decimal(o, 8, 12, 12, 0),
        (y, o) -> y.tell(o, 7), (y, o) -> y.read(o, 1), (y, o) -> y.show(o, 37), (y, o) -> y.sync(o, 5)};
    for (On call : calls) {
      Check.cast(x, () -> call.go(x, 8));
    }
    Check.cast(x, () -> x.match(7, 7, 3, 0));
    Check.cast(x, () -> x.match(8, 8, 3, 0));
    Check.cast(x, () -> x.match(8, 8, 1, -1));
  }

  /** "IllegalArgumentException: an op that the call has not": the first ones beside those that it has. */
  private static void opsThatNoCallHas() {
    LibraryDesk x = Check.furnished();
    Object[][] calls = {{31, (On) (y, op) -> y.list(0, op, 0, 0)}, {31, (On) (y, op) -> y.list(10, op, 0, 0)}, {15, (On) (y, op) -> y.ring(1, op, 0)},
        {24, (On) (y, op) -> y.map(2, op, 0, 0)}, {24, (On) (y, op) -> y.map(20, op, 0, 0)}, {9, (On) (y, op) -> y.move(9, op, 0)}, {8, (On) (y, op) -> y.heap(5, op, 0)},
        {20, (On) (y, op) -> y.bits(6, op, 0, 6)}, {2, (On) (y, op) -> y.item(2, 0, op)}, {21, (On) (y, op) -> y.text(7, op, 0, 0)}, {3, (On) (y, op) -> y.match(8, 7, op, 0)},
        {10, (On) (y, op) -> y.group(op, 0)}, {2, (On) (y, op) -> y.group(0, op)}, {14, (On) (y, op) -> y.whole(11, op, 11, 11)}, {8, (On) (y, op) -> y.decimal(12, op, 12, 12, 8)},
        {6, (On) (y, op) -> y.tell(11, op)}, {8, (On) (y, op) -> y.step(op)}, {8, (On) (y, op) -> y.interrupt(op)}, {8, (On) (y, op) -> y.look(op, 0)}, {6, (On) (y, op) -> y.look(0, op)},
        {5, (On) (y, op) -> y.sync(13, op)}, {9, (On) (y, op) -> y.part(0, op)}, {4, (On) (y, op) -> y.plus(0, op, 1)}, {4, (On) (y, op) -> y.between(0, 0, op)}};
    for (Object[] c : calls) {
      On call = (On) c[1];
      int ops = (Integer) c[0];
      for (int op : new int[] {-1, ops, Integer.MIN_VALUE, Integer.MAX_VALUE}) {
        Check.illegal(x, () -> call.go(x, op));
      }
      for (int op : new int[] {0, ops - 1}) {
        LibraryDesk y = Check.furnished();
        Check.same("op " + op, Check.of(() -> call.go(y, op)).equals("throws.IllegalArgumentException"), false);
      }
    }
    for (int what : new int[] {-1, 1, 2, 4, 5, 7, Integer.MIN_VALUE, Integer.MAX_VALUE}) {
      Check.illegal(x, () -> x.tell(12, what));
    }
    Check.due(() -> x.tell(12, 6), 1);
    Check.illegal(x, () -> x.look(8, 9));
    Check.illegal(x, () -> x.group(10, 2));
  }

  /** "IllegalArgumentException: ..; IllegalStateException: a VIEW or CURSOR that is STALE; UnsupportedOperationException", in this order. */
  private static void staleIsAheadOfNotForThatKind() {
    LibraryDesk x = Check.furnished();
    x.cursor(2);
    x.list(0, 0, 9, 0);
    x.map(2, 0, 9, 9);
    Check.illegal(x, () -> x.list(10, 31, 0, 0));
    Check.illegal(x, () -> x.list(10, 12, 4, 0));
    Check.illegal(x, () -> x.list(10, 28, 2001, 0));
    Check.illegal(x, () -> x.view(10, 1, 0, 0));
    Check.illegal(x, () -> x.item(10, 0, 1));
    Check.illegal(x, () -> x.move(9, 9, 0));
    Check.state(x, () -> x.list(10, 27, 0, 0));
    Check.state(x, () -> x.list(10, 28, 0, 0));
    Check.state(x, () -> x.list(10, 29, 0, 0));
    Check.state(x, () -> x.list(10, 2, -1, 0));
    Check.state(x, () -> x.list(10, 1, 99, 0));
    Check.state(x, () -> x.list(0, 9, -1, 10));
    Check.state(x, () -> x.item(10, -1, 0));
    Check.state(x, () -> x.view(10, 0, -1, 0));
    Check.state(x, () -> x.move(9, 8, 0));
    Check.state(x, () -> x.move(21, 1, 0));
    Check.state(x, () -> x.move(21, 4, 0));
    Check.tape(x, "%");
    Check.state(x, () -> x.form(10));
    Check.illegal(x, () -> Check.furnished().list(10, 28, 2001, 0));
    Check.unsupported(x, () -> Check.furnished().list(10, 28, 2000, 0));
    Check.unsupported(x, () -> Check.furnished().move(9, 8, 0));
    LibraryDesk y = new LibraryDesk();
    y.make(2, 0, 0);
    Check.unsupported(y, () -> y.map(0, 10, 0, 0));
    Check.unsupported(y, () -> y.map(0, 13, 0, 0));
  }

  /** "a new one has the least free number", so for all that make one. */
  private static void leastFreeNumber() {
    LibraryDesk x = Check.furnished();
    for (int o : new int[] {3, 2, 1}) {
      x.drop(o);
    }
    Check.due(() -> x.make(18, 5, 0), 1);
    Check.due(() -> x.view(0, 0, 0, 1), 2);
    Check.due(() -> x.cursor(4), 3);
    Check.due(() -> x.make(0, 0, 0), 21);
    x.drop(6);
    x.drop(5);
    Check.tape(x, "a");
    Check.due(() -> x.pattern(), 5);
    Check.tape(x, "range 0 3 | list");
    Check.due(() -> x.stream(), 6);
    x.drop(1);
    Check.tape(x, "range 0 3 | group 2");
    Check.due(() -> x.stream(), 1);
    Check.due(() -> x.make(0, 0, 0), 22);
    Check.due(() -> x.make(0, 0, 0), 23);
    x.drop(23);
    Check.due(() -> x.cursor(0), 23);
    Check.due(() -> x.drop(0), 5);
    Check.due(() -> x.make(19, 0, 0), 0);
    Check.due(() -> x.make(19, 0, 0), 2);
  }

  /** What is told of a and b of each KIND: the last that may be, and the first that may not. */
  private static void makeRanges() {
    int low = Integer.MIN_VALUE;
    int high = Integer.MAX_VALUE;
    int[][] good = {{0, 0, low}, {0, 1000, high}, {1, 0, low}, {1, 1000, high}, {2, 0, 0}, {2, 1000, 3}, {3, 0, 0}, {3, 1000, 1}, {4, 0, low}, {4, 3, high},
        {5, 1, 0}, {5, 1000, 3}, {6, low, high}, {7, low, high}, {11, low, high}, {12, low, high}, {13, low, 0}, {13, high, 1}, {14, low, high}, {14, high, low},
        {15, 0, low}, {15, high, high}, {16, 1, low}, {16, 8, high}, {17, 1, low}, {17, 100, high}, {18, low, high}, {18, high, low}, {19, low, high}};
    int[][] bad = {{0, 1001, 0}, {0, high, 0}, {1, 1001, 0}, {1, high, 0}, {2, 1001, 0}, {2, high, 0}, {2, 0, -1}, {2, 0, 4}, {2, 1000, low}, {2, 1000, high},
        {3, -1, 0}, {3, low, 1}, {3, 1001, 0}, {3, 0, -1}, {3, 0, 2}, {3, 1000, low}, {4, -1, 0}, {4, 4, 0}, {4, low, 0}, {4, high, 0},
        {5, 0, 0}, {5, -1, 0}, {5, 1001, 0}, {5, 1, -1}, {5, 1, 4}, {13, 0, -1}, {13, 0, 2}, {13, 1, low}, {15, -1, 0}, {15, low, 0},
        {16, 0, 0}, {16, 9, 0}, {16, -1, 0}, {17, 0, 0}, {17, 101, 0}, {17, low, 0}};
    for (int[] m : good) {
      LibraryDesk x = new LibraryDesk();
      Check.due("make " + m[0] + " " + m[1] + " " + m[2], () -> x.make(m[0], m[1], m[2]), 0);
      Check.due(() -> x.count(10), m[0]);
    }
    LibraryDesk x = new LibraryDesk();
    for (int[] m : bad) {
      Check.illegal(x, () -> x.make(m[0], m[1], m[2]));
    }
  }

  /** "in this order: another kind: IllegalArgumentException; a LIST, RING, HASH with a below 0: NegativeArraySizeException; a, b out of range; 24 are there: full". */
  private static void makeOrder() {
    LibraryDesk x = new LibraryDesk();
    for (int turn = 0; turn < 2; turn++) {
      for (int kind : new int[] {-1, 8, 9, 10, 20, 21, 100, Integer.MIN_VALUE, Integer.MAX_VALUE}) {
        Check.illegal(x, () -> x.make(kind, -1, -1));
        Check.illegal(x, () -> x.make(kind, 0, 0));
      }
      for (int kind = 0; kind <= 2; kind++) {
        int k = kind;
        Check.negative(x, () -> x.make(k, -1, 0));
        Check.negative(x, () -> x.make(k, -1, 99));
        Check.negative(x, () -> x.make(k, Integer.MIN_VALUE, -1));
        Check.illegal(x, () -> x.make(k, 1001, 0));
      }
      Check.illegal(x, () -> x.make(3, -1, 0));
      Check.illegal(x, () -> x.make(4, -1, 0));
      Check.illegal(x, () -> x.make(5, -1, 0));
      Check.illegal(x, () -> x.make(15, -1, 0));
      for (int i = 0; i < 24 && turn == 0; i++) {
        int o = i;
        Check.due(() -> x.make(19, 0, 0), o);
      }
    }
    for (int kind : new int[] {0, 1, 2, 3, 4, 5, 6, 7, 11, 12, 13, 14, 15, 16, 17, 18, 19}) {
      Check.state(x, () -> x.make(kind, 1, 1));
    }
  }

  /** "24 are there: full (so for all that make one)", behind all else that is thrown. */
  private static void fullForAllThatMakeOne() {
    LibraryDesk x = Check.furnished();
    for (int i = 21; i < 24; i++) {
      x.make(0, 0, 0);
    }
    Check.state(x, () -> x.make(0, 0, 0));
    Check.state(x, () -> x.view(0, 0, 0, 0));
    Check.state(x, () -> x.view(10, 0, 0, 0));
    Check.state(x, () -> x.view(4, 4, 0, 0));
    Check.state(x, () -> x.view(20, 3, 0, 0));
    for (int o : new int[] {0, 10, 2, 3, 4, 20}) {
      Check.state(x, () -> x.cursor(o));
    }
    Check.beyond(x, () -> x.view(0, 0, 0, 4));
    Check.illegal(x, () -> x.view(4, 1, 1, 2));
    Check.cast(x, () -> x.view(1, 0, 0, 0));
    Check.cast(x, () -> x.cursor(1));
    Check.tape(x, "a");
    Check.state(x, () -> x.pattern());
    Check.due(() -> x.count(3), -1);
    Check.tape(x, "a{20}".repeat(21));
    Check.beyond(x, () -> x.pattern());
    Check.broken(x, "a**", () -> x.pattern(), 2);
    for (String end : new String[] {"list", "group 1"}) {
      Check.tape(x, "range 0 1 | " + end);
      Check.state(x, () -> x.stream());
      Check.due(() -> x.count(3), -1);
      Check.tape(x, "list 1 | " + end);
      Check.cast(x, () -> x.stream());
      Check.tape(x, "range 0 1 | map / 0 | " + end);
      Check.state(x, () -> x.stream());
      Check.broken(x, "range 0 1 | " + end + " x", () -> x.stream(), 13 + end.length());
    }
    Check.tape(x, "range 0 1 | count");
    Check.due(() -> x.stream(), 1);
    x.drop(23);
    Check.tape(x, "range 0 1 | list");
    Check.due(() -> x.stream(), 23);
  }

  /** "it goes, and all VIEWS, SUBMAPS, CURSORS of it, however many between: how many OBJECTS". */
  private static void dropsPartsOfParts() {
    LibraryDesk x = Check.row(1, 2, 3);
    for (int i = 1; i < 23; i++) {
      int of = i - 1;
      Check.due(() -> x.view(of, 0, 0, 3), of + 1);
    }
    Check.due(() -> x.cursor(22), 23);
    Check.due(() -> x.drop(23), 1);
    Check.due(() -> x.cursor(22), 23);
    Check.due(() -> x.drop(20), 4);
    Check.due(() -> x.count(2), 20);
    Check.due(() -> x.drop(0), 20);
    Check.due(() -> x.count(2), 0);
    x.make(0, 0, 0);
    x.make(4, 0, 0);
    x.make(0, 0, 0);
    x.drop(0);
    for (int i = 0; i < 20; i++) {
      int of = i == 0 ? 1 : i == 1 ? 0 : i + 1;
      Check.due(() -> x.view(of, 3, 0, 0), i == 0 ? 0 : of == 0 ? 3 : of + 1);
    }
    Check.due(() -> x.drop(1), 21);
    Check.due(() -> x.count(2), 1);
    Check.due(() -> x.count(12), 0);
  }

  /** "a call that reads THE TAPE leaves it empty, also if it throws", with each answer and each exception that it has. */
  private static void tapeIsTaken() {
    Object[][] calls = {{"a", 21, (On) (x, o) -> x.pattern()}, {"*", -5, (On) (x, o) -> x.pattern()}, {"a{20}".repeat(21), -6, (On) (x, o) -> x.pattern()},
        {"x", 1, (On) (x, o) -> x.replace(8, 7)}, {"x", -1, (On) (x, o) -> x.replace(8, 23)}, {"x", -2, (On) (x, o) -> x.replace(7, 8)}, {"$", -5, (On) (x, o) -> x.replace(8, 7)},
        {"x", 1, (On) (x, o) -> x.form(0)}, {"x", -1, (On) (x, o) -> x.form(23)}, {"x", -2, (On) (x, o) -> x.form(1)}, {"%", -5, (On) (x, o) -> x.form(0)},
        {"%d%d%d%d", -6, (On) (x, o) -> x.form(0)}, {"%d%s", -2, (On) (x, o) -> x.form(0)}, {"%s", -2, (On) (x, o) -> x.form(0)},
        {"12", 2, (On) (x, o) -> x.read(11, 10)}, {"12", -1, (On) (x, o) -> x.read(23, 10)}, {"12", -2, (On) (x, o) -> x.read(0, 10)}, {"12", -3, (On) (x, o) -> x.read(11, 37)},
        {"x", -5, (On) (x, o) -> x.read(11, 10)}, {"z".repeat(600), -7, (On) (x, o) -> x.read(11, 36)}, {"x", -5, (On) (x, o) -> x.read(12, 10)},
        {"range 0 5 | count", 5, (On) (x, o) -> x.stream()}, {"list 23 | count", -1, (On) (x, o) -> x.stream()}, {"list 1 | count", -2, (On) (x, o) -> x.stream()},
        {"range", -5, (On) (x, o) -> x.stream()}, {"range 0 9 | map / 0 | sum", -7, (On) (x, o) -> x.stream()},
        {"end", 0, (On) (x, o) -> x.thread()}, {"ende", -5, (On) (x, o) -> x.thread()}};
    String[] names = {"", "NoSuchElement", "ClassCast", "IllegalArgument", "IllegalState", "UnsupportedOperation", "IndexOutOfBounds", "Arithmetic"};
    for (Object[] c : calls) {
      LibraryDesk x = Check.furnished();
      Check.tape(x, (String) c[0]);
      int want = (Integer) c[1];
      Check.same("<" + c[0] + ">", Check.of(() -> ((On) c[2]).go(x, 0)), want >= 0 ? "" + want : "throws." + names[-want] + "Exception");
      Check.due("THE TAPE behind <" + c[0] + ">", () -> x.count(0), 0);
      Check.due("PLACE behind <" + c[0] + ">", () -> x.count(3) >= 0 ? 1 : 0, want == -5 ? 1 : 0);
    }
    LibraryDesk x = Check.furnished();
    x.list(0, 0, 9, 0);
    Check.tape(x, "x");
    Check.state(x, () -> x.form(10));
    Check.due(() -> x.count(0), 0);
    Check.tape(x, "list 10 | count");
    Check.state(x, () -> x.stream());
    Check.due(() -> x.count(0), 0);
    for (int i = 21; i < 24; i++) {
      x.make(0, 0, 0);
    }
    Check.tape(x, "a");
    Check.state(x, () -> x.pattern());
    Check.due(() -> x.count(0), 0);
    Check.tape(x, "range 0 1 | list");
    Check.state(x, () -> x.stream());
    Check.due(() -> x.count(0), 0);
    for (int t = 0; t < 8; t++) {
      Check.tape(x, "jump 0");
      x.thread();
    }
    Check.tape(x, "end");
    Check.state(x, () -> x.thread());
    Check.due(() -> x.count(0), 0);
  }

  /** "reading THE TAPE with 0, 1, 3, 7, 8, 20 (whatever is thrown)". */
  private static void tapeIsTakenByTexts() {
    for (int op : new int[] {0, 1, 3, 7, 8, 20}) {
      LibraryDesk x = Check.furnished();
      for (int o : new int[] {7, 0, 23, -1}) {
        Check.tape(x, "QUJD");
        Check.same("text " + op, Check.of(() -> x.text(o, op, 0, 0)).startsWith("throws"), o != 7);
        Check.due(() -> x.count(0), 0);
      }
    }
    LibraryDesk x = Check.furnished();
    Check.tape(x, "a");
    Check.beyond(x, () -> x.text(7, 1, 4, 0));
    Check.due(() -> x.count(0), 0);
    Check.tape(x, "a");
    Check.beyond(x, () -> x.text(7, 3, 1, 0));
    Check.due(() -> x.count(0), 0);
    x.text(7, 12, 4000, 0);
    for (int op : new int[] {0, 1, 3}) {
      Check.tape(x, "a");
      Check.state(x, () -> x.text(7, op, 0, 0));
      Check.due(() -> x.count(0), 0);
    }
    Check.tape(x, "a");
    Check.unsupported(x, () -> x.text(7, 20, 0, 0));
    Check.due(() -> x.count(0), 0);
  }

  /** All other calls leave THE TAPE as it is. */
  private static void tapeIsLeft() {
    LibraryDesk x = Check.furnished();
    Check.tape(x, "QUJD");
    for (int op : new int[] {2, 4, 5, 6, 9, 10, 11, 12, 13, 14, 15, 16, 17, 18, 19, 21, -1}) {
      Check.of(() -> x.text(7, op, op == 9 ? 7 : 0, 0));
      Check.of(() -> x.text(23, op, 23, 0));
      Check.due("THE TAPE behind text " + op, () -> x.count(0), 4);
    }
    x.match(8, 7, 2, 0);
    x.group(0, 0);
    x.show(11, 10);
    x.whole(11, 0, 11, 11);
    x.decimal(12, 0, 12, 12, 0);
    x.run(1, 9);
    x.make(0, 0, 0);
    Check.due(() -> x.count(0), 4);
    x.text(7, 20, 0, 0);
    Check.same("what came", Check.textOf(x, 7), "ABC");
  }

  /** count 3: "PLACE of the latest .. that was broken, -1 if the latest of these that read THE TAPE was not, or before". */
  private static void placeOfTheLatest() {
    LibraryDesk x = Check.furnished();
    Check.due(() -> x.count(3), -1);
    Object[][] broken = {{"AAAA====", 4, (On) (y, o) -> y.text(7, 20, 0, 0)}, {"a(", 2, (On) (y, o) -> y.pattern()}, {"abc$", 4, (On) (y, o) -> y.replace(8, 7)},
        {"%d%", 3, (On) (y, o) -> y.form(0)}, {"12x", 2, (On) (y, o) -> y.read(11, 10)}, {"1.5.", 3, (On) (y, o) -> y.read(12, 10)},
        {"range 0 9 | sam", 12, (On) (y, o) -> y.stream()}, {"end;and", 4, (On) (y, o) -> y.thread()}};
    Object[][] other = {{"", (On) (y, o) -> y.text(7, 0, 0, 0)}, {"a", (On) (y, o) -> y.text(7, 1, -1, 0)}, {"", (On) (y, o) -> y.text(7, 3, 0, 0)}, {"a", (On) (y, o) -> y.text(7, 7, 0, 0)},
        {"a", (On) (y, o) -> y.text(7, 8, 0, 0)}, {"", (On) (y, o) -> y.text(23, 20, 0, 0)}, {"", (On) (y, o) -> y.text(7, 20, 0, 0)}, {"b", (On) (y, o) -> y.drop(y.pattern())},
        {"$", (On) (y, o) -> y.replace(7, 8)}, {"1", (On) (y, o) -> y.replace(8, 7)}, {"%", (On) (y, o) -> y.form(1)}, {"%d%d%d%d", (On) (y, o) -> y.form(0)}, {"x", (On) (y, o) -> y.read(11, 1)},
        {"z".repeat(600), (On) (y, o) -> y.read(11, 36)}, {"list 1 | count", (On) (y, o) -> y.stream()}, {"range 0 1 | map / 0 | sum", (On) (y, o) -> y.stream()}, {"end", (On) (y, o) -> y.thread()}};
    for (Object[] b : broken) {
      for (Object[] n : other) {
        Check.broken(x, (String) b[0], () -> ((On) b[2]).go(x, 0), (Integer) b[1]);
        Check.tape(x, "z");
        x.text(7, 11, 0, 0);
        Check.of(() -> x.text(7, 21, 0, 0));
        x.step(0);
        Check.due("PLACE is left by those that do not read", () -> x.count(3), (Integer) b[1]);
        Check.tape(x, (String) n[0]);
        Check.of(() -> ((On) n[1]).go(x, 0));
        Check.due("PLACE behind <" + n[0] + ">", () -> x.count(3), -1);
        x.step(0);
      }
    }
  }

  /** "8 bytes of OUT from i on, the highest first, zeros behind its end; i is none of its bytes: beyond." */
  private static void words() {
    LibraryDesk x = new LibraryDesk();
    int t = Check.text(x, "\u0081\u0082\u0083\u0084\u0085\u0086\u0087\u0088\u0089");
    Check.beyond(x, () -> x.word(0));
    x.text(t, 16, 0, 0);
    Check.beyond(x, () -> x.word(-1));
    Check.due(() -> x.word(0), 0x8182838485868788L);
    Check.due(() -> x.word(1), 0x8283848586878889L);
    Check.due(() -> x.word(2), 0x8384858687888900L);
    Check.due(() -> x.word(8), 0x8900000000000000L);
    Check.beyond(x, () -> x.word(9));
    Check.beyond(x, () -> x.word(Integer.MIN_VALUE));
    Check.beyond(x, () -> x.word(Integer.MAX_VALUE));
    x.text(t, 12, 1, 0);
    x.text(t, 16, 0, 0);
    Check.due(() -> x.word(0), 0x8100000000000000L);
    Check.beyond(x, () -> x.word(1));
    x.text(t, 12, 0, 0);
    Check.due(() -> x.text(t, 16, 0, 0), 0);
    Check.beyond(x, () -> x.word(0));
  }

  /** count: "what 0 .. 5"; "10 ..: KIND of OBJECT what - 10 (-1 for none), up to 33". */
  private static void countsHaveAnEnd() {
    LibraryDesk x = Check.furnished();
    for (int what : new int[] {-1, 6, 7, 8, 9, 34, 35, Integer.MIN_VALUE, Integer.MAX_VALUE}) {
      Check.illegal(x, () -> x.count(what));
    }
    Check.due(() -> x.count(2), 21);
    for (int o = 0; o < 24; o++) {
      int k = o;
      Check.due(() -> x.count(10 + k), o <= 20 ? o : -1);
    }
    while (x.count(2) < 24) {
      x.make(18, 0, 0);
    }
    Check.due(() -> x.count(33), 18);
    Check.due(() -> x.count(5), 0);
    for (int i = 0; i < 3; i++) {
      x.tick(Integer.MAX_VALUE);
    }
    Check.due(() -> x.count(5), 3L * Integer.MAX_VALUE);
  }

  /** count 4: "CALLED of the latest stream that did not throw (0 before)". */
  private static void calledOfTheLatest() {
    LibraryDesk x = new LibraryDesk();
    Check.due(() -> x.count(4), 0);
    Check.tape(x, "range 0 3 | map / 0 | count");
    Check.arithmetic(x, () -> x.stream());
    Check.due(() -> x.count(4), 0);
    Check.tape(x, "range 0 3 | map / 1 | count");
    Check.due(() -> x.stream(), 3);
    Check.due(() -> x.count(4), 3);
    Check.tape(x, "range 0 9 | map / 1 | filter div 0 | count");
    Check.arithmetic(x, () -> x.stream());
    Check.broken(x, "range 0 9 | map / 1 |", () -> x.stream(), 21);
    Check.tape(x, "list 0 | map / 1 | count");
    Check.none(x, () -> x.stream());
    Check.due(() -> x.count(4), 3);
    Check.tape(x, "range 0 3 | count");
    Check.due(() -> x.stream(), 3);
    Check.due(() -> x.count(4), 0);
  }

  /** A desk with a LIST, a TREE and a TEXT, whose next OBJECT is 2. */
  private static LibraryDesk withTwoFree() {
    LibraryDesk x = Check.row(1, 2, 3);
    x.make(4, 0, 0);
    x.make(18, 0, 0);
    Check.text(x, "aab");
    for (int k = 1; k <= 3; k++) {
      x.map(1, 0, k, 10 * k);
    }
    x.drop(2);
    return x;
  }

  /** OBJECT 2 of a KIND, with the least a and b, or with great ones. */
  private static void makeTwo(LibraryDesk x, int kind, boolean great) {
    if (kind == 8) {
      Check.tape(x, great ? "([^c]x|(a))+b$" : "a");
    }
    int[] most = {1000, 1000, 64, 7, 2, 1000, 5, 5, 0, 0, 0, 5, 5, 5, 5, 5, 8, 100, 5, 5};
    int[] least = {0, 0, 0, 0, 0, 1, 0, 0, 0, 0, 0, 0, 0, 0, 0, 0, 1, 1, 0, 0};
    Check.due("KIND " + kind, () -> kind == 8 ? x.pattern() : kind == 9 ? x.cursor(great ? 0 : 1) : kind == 10 ? x.view(0, 0, great ? 1 : 0, 3)
        : kind == 20 ? x.view(1, great ? 1 : 3, 2, 9) : x.make(kind, (great ? most : least)[kind], great ? kind == 2 || kind == 5 ? 2 : 1 : 0), 2);
    Check.due(() -> x.count(12), kind);
  }

  private static void runTwo(LibraryDesk x, String program) {
    Check.tape(x, program);
    x.thread();
    x.run(1, 100);
  }

  /** OBJECT 2 gets what its KIND can have. */
  private static void fillTwo(LibraryDesk x, int kind) {
    String[] programs = {"lock 2;lock 2", "release 2 7;acquire 2 1", "down 2", "end", "load 3;offer 2;load 4;offer 2;poll 2", "inc 2 9", "load 8;give 2"};
    for (int i = 0; i < 12; i++) {
      int k = i;
      switch (kind) {
        case 0, 10 -> x.list(2, 0, k, 0);
        case 1 -> x.ring(2, 0, k);
        case 2, 3, 4 -> x.map(2, 0, 64 * k + 5, k);
        case 5 -> x.heap(2, 0, -k);
        case 6 -> x.bits(2, 3, 5 * k, 300 * k);
        case 7 -> {
          Check.tape(x, "text " + k);
          x.text(2, 1, 0, 0);
        }
        case 8 -> Check.due(() -> x.match(2, 3, 2, 3), -1);
        case 9 -> Check.of(() -> x.move(2, k % 2 == 0 ? 0 : 2, 0));
        case 11 -> x.set(2, Long.MIN_VALUE >> k);
        case 12 -> {
          Check.tape(x, "-12.34");
          x.read(2, 10);
        }
        case 20 -> Check.of(() -> x.map(2, 0, k, -k));
        default -> { }
      }
    }
    if (kind >= 13 && kind <= 19) {
      runTwo(x, programs[kind - 13]);
    }
  }

  /** "A new OBJECT", in the place of one that went: nothing of that is left, whatever the two are. */
  private static void madeAnew() {
    for (int kind = 0; kind <= 20; kind++) {
      LibraryDesk y = withTwoFree();
      makeTwo(y, kind, false);
      String first = State.of(y, 2);
      fillTwo(y, kind);
      String last = State.of(y, 2);
      for (int before = 0; before <= 20; before++) {
        LibraryDesk x = withTwoFree();
        makeTwo(x, before, true);
        fillTwo(x, before);
        Check.due(() -> x.drop(2), 1);
        if (before == 10) {
          x.list(0, 8, 0, 0);
          for (int e = 1; e <= 3; e++) {
            x.list(0, 0, e, 0);
          }
        } else if (before == 20) {
          x.map(1, 5, 0, 0);
          for (int k = 1; k <= 3; k++) {
            x.map(1, 0, k, 10 * k);
          }
        }
        makeTwo(x, kind, false);
        Check.same("KIND " + kind + " behind " + before, State.of(x, 2), first);
        if (kind == 8) {
          Check.due(() -> x.match(2, 3, 2, 0), 1);
          Check.due(() -> x.group(0, 0) * 10 + x.group(1, 0), -1);
        }
        fillTwo(x, kind);
        Check.same("KIND " + kind + " behind " + before + ", filled", State.of(x, 2), last);
      }
    }
  }

  private interface With {
    long go(LibraryDesk x, int a, int b);
  }

  /** What an op has no use for may be any number: it answers, and does, what it does with 0. */
  private static void same(String what, With call, boolean first, boolean second) {
    int[] any = {-1, 1, 3, 4, 24, 1001, 5000, Integer.MIN_VALUE, Integer.MAX_VALUE};
    LibraryDesk y = Check.furnished();
    String want = Check.of(() -> call.go(y, 0, 0));
    String state = State.of(y);
    for (int a : any) {
      for (int b : any) {
        if ((first || a == any[0]) && (second || b == any[0])) {
          LibraryDesk x = Check.furnished();
          Check.same(what + " with " + a + " and " + b, Check.of(() -> call.go(x, first ? a : 0, second ? b : 0)), want);
          Check.same("all behind " + what, State.of(x), state);
        }
      }
    }
  }

  /** All ops in the ranges that have no use for a, or for b, or for both. */
  private static void numbersThatDoNotMatter() {
    for (int op : new int[] {8, 13, 21, 22, 23, 24, 25, 27, 29}) {
      same("list " + op, (x, a, b) -> x.list(0, op, a, b), true, true);
    }
    for (int op : new int[] {0, 2, 4, 5, 6, 7, 12, 14, 15, 17, 20, 28}) {
      same("list " + op, (x, a, b) -> x.list(10, op, 0, b), false, op < 27);
      same("list " + op, (x, a, b) -> x.list(0, op, 1, b), false, true);
    }
    for (int op : new int[] {10, 11, 26}) {
      same("list " + op, (x, a, b) -> x.list(0, op, a, 10), true, false);
    }
    for (int op : new int[] {2, 3, 4, 5, 6, 7, 12, 14}) {
      same("ring " + op, (x, a, b) -> x.ring(1, op, a), true, false);
    }
    for (int op : new int[] {4, 5, 10, 11, 12, 13, 18, 21, 22}) {
      same("map " + op, (x, a, b) -> x.map(op > 20 ? 2 : 4, op, a, b), true, true);
      same("map " + op, (x, a, b) -> x.map(op > 20 ? 2 : 20, op, a, b), true, true);
    }
    for (int op : new int[] {1, 2, 3, 9, 14, 15, 16, 17, 23}) {
      same("map " + op, (x, a, b) -> x.map(4, op, 2, b), false, true);
    }
    for (int op : new int[] {19, 20}) {
      same("map " + op, (x, a, b) -> x.map(3, op, a, 2), true, false);
    }
    for (int op : new int[] {1, 2, 4, 5, 6}) {
      same("heap " + op, (x, a, b) -> x.heap(5, op, a), true, false);
    }
    for (int op : new int[] {0, 1, 2, 6, 7, 8, 9, 10, 19}) {
      same("bits " + op, (x, a, b) -> x.bits(6, op, 2, b), false, true);
    }
    same("bits 11", (x, a, b) -> x.bits(6, 11, a, b), true, true);
    same("bits 12", (x, a, b) -> x.bits(6, 12, a, b), true, true);
    for (int op = 13; op <= 18; op++) {
      int k = op;
      same("bits " + op, (x, a, b) -> x.bits(6, k, a, 6), true, false);
    }
    for (int op : new int[] {0, 4, 10, 11, 13, 14, 15, 16, 18, 19, 20}) {
      same("text " + op, (x, a, b) -> x.text(7, op, a, b), true, true);
    }
    for (int op : new int[] {1, 5, 7, 8, 12, 17}) {
      same("text " + op, (x, a, b) -> x.text(7, op, 2, b), false, true);
    }
    same("text 9", (x, a, b) -> x.text(7, 9, 7, b), false, true);
    for (int op = 0; op <= 5; op++) {
      int k = op;
      same("move " + op, (x, a, b) -> x.move(9, 0, 0) + 10 * x.move(9, k, a), true, false);
    }
    same("move 8", (x, a, b) -> x.drop(9) + x.cursor(4) + x.move(9, 0, 0) + 10 * x.move(9, 8, a), true, false);
    same("view 2", (x, a, b) -> x.view(4, 2, 2, b), false, true);
    same("view 3", (x, a, b) -> x.view(4, 3, 2, b), false, true);
    same("view 4", (x, a, b) -> x.view(4, 4, a, b), true, true);
    same("match 0", (x, a, b) -> x.match(8, 7, 0, a), true, false);
    same("whole 9", (x, a, b) -> x.whole(11, 9, 11, b), false, true);
    for (int op : new int[] {0, 1, 2, 6, 7}) {
      same("decimal " + op, (x, a, b) -> x.decimal(12, op, 12, 12, b), false, true);
    }
    for (int op = 4; op <= 6; op++) {
      int k = op;
      same("decimal " + op, (x, a, b) -> x.decimal(12, k, 12, b, 8), false, true);
    }
    same("run", (x, a, b) -> x.run(a, 9), true, false);
  }

  /** What one call has written on its way is not seen by the next one. */
  private static void callsBehindOthers() {
    String[] before = {"", "YWJjZGVm", "x", "<%d>", "range 0 9 | sum", "load 1;load 2"};
    for (int i = 0; i < before.length; i++) {
      int k = i;
      LibraryDesk x = Check.furnished();
      Check.tape(x, before[i]);
      Check.same(before[i], Check.of(() -> k == 0 ? 0 : k == 1 ? x.text(7, 20, 0, 0) : k == 2 ? x.replace(8, 7) : k == 3 ? x.form(0) : k == 4 ? x.stream() : x.thread()).startsWith("throws"), false);
      x.text(7, 12, 0, 0);
      Check.tape(x, "012345");
      Check.due(() -> x.text(7, 0, 0, 0), 6);
      Check.due(() -> x.text(7, 2, 2, 4), 4);
      Check.same("TEXT", Check.textOf(x, 7), "0145");
      Check.broken(x, "range 0 3; | count", () -> x.stream(), 8);
      Check.broken(x, "range 0 3 ; | count", () -> x.stream(), 10);
      Check.tape(x, "load 1;load 2");
      Check.same("PROGRAM", Check.of(() -> x.thread()).startsWith("throws"), false);
      Check.broken(x, "range 0 3;", () -> x.stream(), 8);
    }
  }

  /** "(what a KIND has not does not matter)": it is the same whatever that is. */
  private static void madeWithWhatDoesNotMatter() {
    for (int kind : new int[] {0, 1, 4, 6, 7, 11, 12, 13, 14, 15, 16, 17, 18, 19}) {
      boolean hasA = kind == 0 || kind == 1 || kind == 4 || kind >= 14 && kind <= 18;
      boolean hasB = kind == 13;
      LibraryDesk y = new LibraryDesk();
      y.make(kind, 1, 1);
      String made = State.of(y, 0);
      fillOne(y, kind);
      String filled = State.of(y, 0);
      for (int any : new int[] {0, -1, 2, 5, 200, 1001, Integer.MIN_VALUE, Integer.MAX_VALUE}) {
        LibraryDesk x = new LibraryDesk();
        Check.due(() -> x.make(kind, hasA ? 1 : any, hasB ? 1 : any), 0);
        Check.same("KIND " + kind + " with " + any, State.of(x, 0), made);
        fillOne(x, kind);
        Check.same("KIND " + kind + " with " + any + ", filled", State.of(x, 0), filled);
      }
    }
    LibraryDesk x = new LibraryDesk();
    x.make(11, 7, -7);
    x.make(12, 7, -7);
    for (int o = 0; o < 2; o++) {
      int k = o;
      Check.due(() -> x.show(k, 10), 1);
      Check.same("OUT", Check.out(x), "0");
      Check.due(() -> x.tell(k, 0), 0);
      Check.due(() -> x.tell(k, 3), 1);
    }
    Check.due(() -> x.tell(1, 6), 0);
    x.set(0, 12);
    Check.due(() -> x.show(0, 10), 2);
  }

  private static void fillOne(LibraryDesk x, int kind) {
    if (kind == 11 || kind == 12) {
      Check.tape(x, "-120");
      Check.due(() -> x.read(0, 10), 4);
      Check.due(() -> x.show(0, 10), 4);
      Check.same("OUT", Check.out(x), "-120");
    } else if (kind == 13) {
      Check.tape(x, "lock 0;lock 0");
      x.thread();
      x.run(1, 2);
    } else if (kind == 19) {
      Check.tape(x, "load 3;give 0");
      x.thread();
      x.run(1, 2);
    } else if (kind == 7) {
      Check.tape(x, "text");
      x.text(0, 0, 0, 0);
    } else if (kind == 4) {
      x.map(0, 0, 1, 1);
      x.map(0, 0, 2, 2);
    }
  }
}
