import java.util.ArrayList;
import java.util.Collections;
import java.util.Iterator;
import java.util.List;
import java.util.Random;

/** Promise 15 (stream), beside iterators over one another. */
public final class StreamTest {
  private static Random r;
  private static int asked;
  private static int given;
  private static int sourced;

  private interface Test {
    boolean so(int v);
  }

  private interface Change {
    int of(int v);
  }

  private static int number() {
    return r.nextInt(8) == 0 ? r.nextInt(1000) - 500 : r.nextInt(9) - 3;
  }

  private static String shown = "";

  private static Test drawTest() {
    int n = number();
    switch (r.nextInt(6)) {
      case 0:
        shown = "even";
        return v -> v % 2 == 0;
      case 1:
        shown = "odd";
        return v -> v % 2 != 0;
      case 2:
        shown = "> " + n;
        return v -> v > n;
      case 3:
        shown = "< " + n;
        return v -> v < n;
      case 4:
        shown = "= " + n;
        return v -> v == n;
      default:
        shown = "div " + n;
        return v -> v % n == 0;
    }
  }

  private static Change drawChange() {
    int n = number();
    switch (r.nextInt(7)) {
      case 0:
        shown = "neg";
        return v -> -v;
      case 1:
        shown = "abs";
        return v -> Math.abs(v);
      case 2:
        shown = "+ " + n;
        return v -> v + n;
      case 3:
        shown = "- " + n;
        return v -> v - n;
      case 4:
        shown = "* " + n;
        return v -> v * n;
      case 5:
        shown = "/ " + n;
        return v -> v / n;
      default:
        shown = "% " + n;
        return v -> v % n;
    }
  }

  private static void give() {
    if (++given > 1000000) {
      throw new ArithmeticException();
    }
  }

  /** An iterator that asks only when it must: next() is null at the end. */
  private interface From {
    Integer next();
  }

  private static From counted(Iterator<Integer> i) {
    return () -> {
      if (!i.hasNext()) {
        return null;
      }
      if (++sourced > 10000) {
        throw new ArithmeticException();
      }
      return i.next();
    };
  }

  private static boolean ask(Test t, int v) {
    asked++;
    return t.so(v);
  }

  private static From stage(From f, StringBuilder b) {
    From before = () -> {
      Integer v = f.next();
      if (v != null) {
        give();
      }
      return v;
    };
    int n = r.nextInt(6);
    int[] state = new int[2];
    List<Integer> kept = new ArrayList<>();
    switch (r.nextInt(9)) {
      case 0:
        Test t = drawTest();
        b.append("filter ").append(shown);
        return () -> {
          Integer v = before.next();
          while (v != null && !ask(t, v)) {
            v = before.next();
          }
          return v;
        };
      case 1:
        Change c = drawChange();
        b.append("map ").append(shown);
        return () -> {
          Integer v = before.next();
          if (v == null) {
            return null;
          }
          asked++;
          return c.of(v);
        };
      case 2:
        b.append("copies ").append(n);
        return () -> {
          while (kept.isEmpty()) {
            Integer v = before.next();
            if (v == null) {
              return null;
            }
            kept.addAll(Collections.nCopies(n, v));
          }
          return kept.remove(0);
        };
      case 3:
        b.append("distinct");
        java.util.Set<Integer> set = new java.util.HashSet<>();
        return () -> {
          Integer v = before.next();
          while (v != null && !set.add(v)) {
            v = before.next();
          }
          if (set.size() > 2000) {
            throw new ArithmeticException();
          }
          return v;
        };
      case 4:
        int k = r.nextInt(4);
        b.append("sorted ").append(k);
        return () -> {
          if (state[0] == 0) {
            state[0] = 1;
            for (Integer v = before.next(); v != null; v = before.next()) {
              kept.add(v);
              if (kept.size() > 2000) {
                throw new ArithmeticException();
              }
            }
            kept.sort(ListTest.order(k));
          }
          return kept.isEmpty() ? null : kept.remove(0);
        };
      case 5:
        int most = n * (r.nextInt(3) == 0 ? 10 : 2);
        b.append("limit ").append(most);
        return () -> state[0]++ < most ? before.next() : null;
      case 6:
        b.append("skip ").append(n);
        return () -> {
          for (; state[0] < n; state[0]++) {
            if (before.next() == null) {
              return null;
            }
          }
          return before.next();
        };
      case 7:
        Test w = drawTest();
        b.append("while ").append(shown);
        return () -> {
          Integer v = state[0] == 1 ? null : before.next();
          if (v == null || !ask(w, v)) {
            state[0] = 1;
            return null;
          }
          return v;
        };
      default:
        Test u = drawTest();
        b.append("until ").append(shown);
        return () -> {
          Integer v = before.next();
          while (v != null && state[0] == 0 && !ask(u, v)) {
            v = before.next();
          }
          state[0] = 1;
          return v;
        };
    }
  }

  private static List<Integer> madeRow;
  private static List<Integer> madeKeys;
  private static List<Integer> madeVals;

  private interface End {
    long of(From f);
  }

  private static From given(From f) {
    return () -> {
      Integer v = f.next();
      if (v != null) {
        give();
      }
      return v;
    };
  }

  private static End end(StringBuilder b, int free) {
    int op = r.nextInt(11);
    Test t = drawTest();
    String test = shown;
    int a = number();
    int g = r.nextInt(4);
    b.append(new String[] {"count", "sum", "least", "greatest", "first", "any " + test, "all " + test, "none " + test,
        "fold " + a + " " + "+*>^".charAt(g), "list", "group " + (Math.abs(a) + 1)}[op]);
    return from -> {
      From f = given(from);
      long n = 0;
      Integer best = null;
      int acc = a;
      for (Integer v = f.next(); v != null; v = f.next()) {
        n += op == 1 ? v : 1;
        if (op == 2 || op == 3) {
          best = best == null ? v : op == 2 ? Math.min(best, v) : Math.max(best, v);
        } else if (op == 4) {
          return v;
        } else if (op >= 5 && op <= 7 && ask(t, v) != (op == 6)) {
          return op == 5 ? 1 : 0;
        } else if (op == 8) {
          asked++;
          acc = g == 0 ? acc + v : g == 1 ? acc * v : g == 2 ? Math.max(acc, v) : acc ^ v;
        } else if (op == 9) {
          madeRow.add(v);
          if (madeRow.size() > 2000) {
            throw new ArithmeticException();
          }
        } else if (op == 10) {
          int key = Math.floorMod(v, Math.abs(a) + 1);
          int i = madeKeys.indexOf(key);
          if (i < 0) {
            madeKeys.add(key);
            madeVals.add(1);
            if (madeKeys.size() > 1000) {
              throw new ArithmeticException();
            }
          } else {
            madeVals.set(i, madeVals.get(i) + 1);
          }
        }
      }
      return op <= 1 ? n : op <= 4 ? best == null ? Check.NONE : best : op == 5 ? 0 : op <= 7 ? 1 : op == 8 ? acc : free;
    };
  }

  public static void main(String[] args) {
    for (int seed = 0; seed < 15000; seed++) {
      r = Check.random(seed);
      play();
    }
    examples();
    limits();
    broken();
    Check.withoutBlanks("range -1 2 | filter even | map neg | while > -5 | until div 3 | limit 4 | distinct | sorted 2 | copies 3 | skip 1 | fold -3 ^", x -> x.stream());
    Check.withoutBlanks("iterate 1 - -2 | limit 2 | map % 9 | filter = 1 | any odd", x -> x.stream());
    Check.withoutBlanks("list 0 | map * 3 | map + 1 | map / 2 | group 4", x -> x.stream());
    Check.withoutBlanks("keys 1 | count", x -> x.stream());
    Check.withoutBlanks("values 1 | all < 7", x -> x.stream());
    objects();
    Check.end("StreamTest");
  }

  private static void play() {
    LibraryDesk x = new LibraryDesk();
    x.make(0, 0, 0);
    x.make(2, 0, 0);
    x.make(3, 0, 0);
    x.make(4, 0, 0);
    List<Integer> row = new ArrayList<>();
    for (int i = r.nextInt(9); i > 0; i--) {
      int v = r.nextInt(12) == 0 ? r.nextInt() : number();
      row.add(v);
      x.list(0, 0, v, 0);
      for (int m = 1; m <= 3; m++) {
        x.map(m, 0, v, i);
      }
    }
    StringBuilder b = new StringBuilder();
    From f;
    int source = r.nextInt(4);
    if (source == 0) {
      int from = number();
      int to = from + r.nextInt(12) - 2;
      b.append("range ").append(from).append(' ').append(to);
      List<Integer> l = new ArrayList<>();
      for (int i = from; i < to; i++) {
        l.add(i);
      }
      f = counted(l.iterator());
    } else if (source == 1) {
      b.append("list 0");
      f = counted(row.iterator());
    } else if (source == 2) {
      int m = 1 + r.nextInt(3);
      int part = r.nextInt(2);
      b.append(part == 0 ? "keys " : "values ").append(m);
      List<Integer> l = new ArrayList<>();
      for (int i = 0; i < x.map(m, 4, 0, 0); i++) {
        l.add((int) x.item(m, i, part));
      }
      f = counted(l.iterator());
    } else {
      int a = number();
      Change c = drawChange();
      b.append("iterate ").append(a).append(' ').append(shown);
      int[] v = {a, 0};
      f = () -> {
        if (v[1] > 0) {
          asked++;
          v[0] = c.of(v[0]);
        }
        v[1] = 1;
        if (++sourced > 10000) {
          throw new ArithmeticException();
        }
        return v[0];
      };
    }
    for (int n = r.nextInt(5); n > 0; n--) {
      b.append(" | ");
      f = stage(f, b);
    }
    b.append(" | ");
    madeRow = new ArrayList<>();
    madeKeys = new ArrayList<>();
    madeVals = new ArrayList<>();
    End e = end(b, 4);
    long before = x.count(4);
    asked = 0;
    given = 0;
    sourced = 0;
    String want;
    try {
      want = "" + e.of(f);
    } catch (ArithmeticException no) {
      want = "throws.ArithmeticException";
    }
    String tape = b.toString();
    Check.tape(x, tape);
    Check.same(tape, Check.of(() -> x.stream()), want);
    boolean threw = want.startsWith("throws");
    Check.due("CALLED of " + tape, () -> x.count(4), threw ? before : asked);
    Check.due(() -> x.count(3), -1);
    Check.due(() -> x.count(0), 0);
    boolean list = tape.endsWith("| list") && !threw;
    boolean group = tape.contains("| group") && !threw;
    Check.due(() -> x.count(2), list || group ? 5 : 4);
    Check.due(() -> x.count(14), list ? 0 : group ? 2 : -1);
    if (list) {
      Check.due(() -> x.list(4, 24, 0, 0), madeRow.size());
      Check.due(() -> x.list(4, 27, 0, 0), madeRow.isEmpty() ? 0 : Math.max(10, madeRow.size()));
      for (int i = 0; i < madeRow.size(); i++) {
        int k = i;
        Check.due(() -> x.item(4, k, 0), madeRow.get(i));
      }
    } else if (group) {
      int other = x.make(2, 0, 0);
      for (int i = 0; i < madeKeys.size(); i++) {
        x.map(other, 0, madeKeys.get(i), madeVals.get(i));
      }
      Check.due(() -> x.map(4, 19, 0, other), 1);
      for (int op : new int[] {21, 22}) {
        Check.due(() -> x.map(4, op, 0, 0), x.map(other, op, 0, 0));
      }
      for (int i = 0; i < madeKeys.size(); i++) {
        int k = i;
        Check.due(() -> x.item(4, k, 0), x.item(other, k, 0));
      }
    }
  }

  private static void due(String tape, long answer, long called) {
    LibraryDesk x = new LibraryDesk();
    Check.tape(x, tape);
    Check.due(tape, () -> x.stream(), answer);
    Check.due("CALLED of " + tape, () -> x.count(4), called);
  }

  private static void fails(String tape) {
    LibraryDesk x = new LibraryDesk();
    Check.tape(x, tape);
    Check.same(tape, Check.of(() -> x.stream()), "throws.ArithmeticException");
    Check.due(() -> x.count(2), 0);
    Check.due(() -> x.count(3), -1);
  }

  private static void examples() {
    due("range 0 10 | count", 10, 0);
    due("range 5 5 | least", Check.NONE, 0);
    due("range 9 5 | first", Check.NONE, 0);
    due("iterate 1 * 2 | limit 10 | sum", 1023, 9);
    due("iterate 1 * 2 | first", 1, 0);
    due("iterate 7 + 1 | limit 0 | count", 0, 0);
    due("iterate 0 + 1 | filter > 3 | first", 4, 9);
    due("iterate 0 + 1 | while < 5 | count", 5, 11);
    due("range 0 10 | until > 4 | sum", 35, 6);
    due("range -3 3 | map abs | distinct | count", 4, 6);
    due("range -3 3 | map abs | sorted 1 | first", 3, 6);
    due("iterate 5 - 1 | sorted 0 | limit 0 | count", 0, 0);
    due("iterate 5 - 1 | limit 4 | sorted 0 | limit 0 | count", 0, 0);
    due("range 0 5 | copies 3 | limit 4 | sum", 1, 0);
    due("range 0 5 | copies 0 | count", 0, 0);
    due("range 1 6 | fold 1 *", 120, 5);
    due("range 1 6 | fold 100 >", 100, 5);
    due("range 1 6 | fold 5 ^", 5 ^ 1 ^ 2 ^ 3 ^ 4 ^ 5, 5);
    due("range 0 10 | any > 3", 1, 5);
    due("range 0 10 | all < 3", 0, 4);
    due("range 0 10 | none = 3", 0, 4);
    due("range 0 0 | all = 1", 1, 0);
    due("range 0 0 | any = 1", 0, 0);
    due("range -7 -6 | map / 2 | first", -3, 1);
    due("range -7 -6 | map % 2 | first", -1, 1);
    due("range -7 -6 | filter odd | count", 1, 1);
    due("iterate 999999999 * 3 | skip 2 | first", 999999999 * 9, 2);
    due("range 0 9 | filter odd | map + 1 | sum", 20, 13);
    due("range 0 9   |  filter   >  -5 |   map  -   -1  |  sum", 45, 18);
    due("range 0 1 | fold -3 +", -3, 1);
    due("  range  0 9  |  count  ", 9, 0);
    due("range 007 000000010 | count", 3, 0);
    due("range -0 1 | count", 1, 0);
  }

  private static void limits() {
    due("range 0 10000 | count", 10000, 0);
    fails("range 0 10001 | count");
    due("iterate 0 + 1 | limit 10000 | count", 10000, 9999);
    fails("iterate 0 + 1 | limit 10001 | count");
    fails("iterate 0 + 1 | filter < 0 | first");
    fails("iterate 1 / 0 | limit 2 | count");
    due("iterate 1 / 0 | limit 1 | count", 1, 0);
    fails("range 0 3 | filter div 0 | count");
    fails("range 0 3 | map % 0 | count");
    due("range 0 0 | map % 0 | count", 0, 0);
    due("range 0 2000 | sorted 1 | first", 1999, 0);
    fails("range 0 2001 | sorted 1 | first");
    due("range 0 2000 | distinct | count", 2000, 0);
    fails("range 0 2001 | distinct | count");
    due("range 0 10000 | map % 2000 | distinct | count", 2000, 10000);
    due("range 0 2000 | list", 0, 0);
    fails("range 0 2001 | list");
    due("range 0 10000 | group 1000", 0, 0);
    fails("range 0 10000 | group 1001");
    due("range 0 9900 | copies 100 | count", 990000, 0);
    fails("range 0 9901 | copies 100 | limit 990099 | skip 990099 | count");
    due("range 0 9900 | copies 100 | skip 0 | limit 1 | count", 1, 0);
    fails("range 0 9901 | copies 100 | count");
    fails("iterate 0 + 0 | copies 100 | limit 499999 | skip 499998 | count");
    fails("range 0 5000 | copies 100 | copies 1 | count");
    due("range 0 4900 | copies 100 | copies 1 | count", 490000, 0);
    due("range 0 4975 | copies 100 | copies 1 | skip 9 | limit 0 | count", 0, 0);
    due("range 0 9999 | copies 1 | copies 99 | limit 1 | count", 1, 0);
    due("range 0 9900 | copies 100 | skip 100 | limit 1 | count", 1, 0);
    // 10000 to copies and 990000 to the END are 1000000 GIVEN; one more is too many
    due("range 0 10000 | copies 99 | count", 990000, 0);
    fails("range 0 10000 | skip 0 | copies 99 | count");
  }

  private static void broken() {
    LibraryDesk x = new LibraryDesk();
    x.make(0, 0, 0);
    Object[][] bad = {{"", 0}, {"   ", 3}, {"count", 0}, {"rang 0 1 | count", 0}, {"range", 5}, {"range 0", 7}, {"range 0 x", 8}, {"range 0 1", 9},
        {"range 0 1 count", 10}, {"range 0 1 |", 11}, {"range 0 1 | ", 12}, {"range 0 1 | foo", 12}, {"range 0 1 | count x", 18},
        {"range 0 1 | count | sum", 18}, {"range 0 1234567890 | count", 8}, {"range 0 - 5 | count", 8}, {"list 24 | count", 5}, {"list -1 | count", 5},
        {"keys 99 | count", 5}, {"values x | count", 7}, {"iterate 1 | count", 10}, {"iterate 1 & 2 | count", 10}, {"iterate x + 1 | count", 8},
        {"list 0 | filter", 15}, {"list 0 | filter big | count", 16}, {"list 0 | filter 5 | count", 16}, {"list 0 | filter > | count", 18},
        {"list 0 | filter + 5 | count", 16}, {"list 0 | map > 5 | count", 13}, {"list 0 | map + | count", 15}, {"list 0 | copies 101 | count", 16},
        {"list 0 | copies -1 | count", 16}, {"list 0 | sorted 4 | count", 16}, {"list 0 | sorted | count", 16}, {"list 0 | limit -1 | count", 15},
        {"list 0 | skip -5 | count", 14}, {"list 0 | limit 1000000000 | count", 15}, {"list 0 | group 0", 15}, {"list 0 | group -3", 15},
        {"list 0 | fold 1 -", 16}, {"list 0 | fold + 1", 14}, {"list 0 | fold 1", 15}, {"list 0 | any", 12}, {"list 0 | all 3", 13},
        {"list 0 || count", 7}, {"| list 0 | count", 0}, {"list 0 | list 0", 14}, {"list 0 | range 0 1 | count", 9}, {"List 0 | count", 0},
        {"range 1 2 |sum", 10}, {"range 1 2| sum", 8}, {"range 1 2|sum", 8}, {"range1 2 | sum", 0}, {"range 1-2 | sum", 6},
        {"range 1 2x | sum", 8}, {"range 1 2 | sum5", 12}, {"range 1 2 | sum|", 12}, {"list0 | sum", 0}, {"list 0 | filter>5 | sum", 9},
        {"list 0 | filter >5 | sum", 16}, {"list 0 | filter > 5| sum", 18}, {"list 0 | filter even| sum", 16}, {"list 0 | filter even |sum", 21},
        {"list 0 | map +5 | sum", 13}, {"list 0 | map --5 | sum", 13}, {"list 0 | map -5 | sum", 13}, {"list 0 | map neg| sum", 13}, {"list 0 | limit5 | sum", 9},
        {"list 0 | distinct| sum", 9}, {"list 0 | fold 1+", 14}, {"list 0 | fold 1 +x", 16}, {"list 0 | any >5", 13}, {"list 0 | any div5", 13},
        {"list 0 | group10", 9}, {"iterate 1+ 1 | sum", 8}, {"iterate 1 +1 | sum", 10}, {"iterate1 + 1 | sum", 0},
        {"list 0 | count\n", 9}, {"list 0 |\tcount", 7}, {"list 0 | limit 1 2 | count", 17},
        {"range 1 2 |s\0\0\0\0\0\0\0\0", 10}, {"range 1 2 | sum\0\0\0\0\0", 12}, {"range 1 2\0", 8}, {"range\0", 0}, {"range 1 2 |\0", 10},
        {"range 1 2 | \0", 12}, {"range 1 2 \0", 10}, {"\0range 1 2", 0}, {"range 1 2 | sum \0", 16}, {"range 1 2 | filtereven | sum", 12},
        {"list 0 | filter <= 5 | sum", 16}, {"list 0 | filter div5 | sum", 16}, {"list 0 | fold 1 ++", 16}, {"list 00x | sum", 5}, {"list 0 | sorted 1,2 | sum", 16},
        {"range 1 2;| sum", 8}, {"range 1 2 ;| sum", 10}};
    for (Object[] b : bad) {
      Check.broken(x, (String) b[0], () -> x.stream(), (Integer) b[1]);
    }
    Check.tape(x, "list 0" + " | skip 0".repeat(20) + " | count");
    Check.due(() -> x.stream(), 0);
    Check.broken(x, "list 0" + " | skip 0".repeat(21) + " | count", () -> x.stream(), 6 + 20 * 9 + 3);
    Check.broken(x, "list 0" + " | skip 0".repeat(20) + " | skop", () -> x.stream(), 6 + 20 * 9 + 3);
    Check.due(() -> x.count(2), 1);
  }

  private static void objects() {
    LibraryDesk x = new LibraryDesk();
    x.make(0, 0, 0);
    x.make(2, 0, 0);
    x.make(1, 0, 0);
    x.view(0, 0, 0, 0);
    x.list(0, 0, 1, 0);
    Object[][] bad = {{"list 3 | count", "IllegalState"}, {"list 1 | count", "ClassCast"}, {"keys 0 | count", "ClassCast"}, {"values 2 | count", "ClassCast"},
        {"list 9 | count", "NoSuchElement"}, {"keys 9 | list", "NoSuchElement"}, {"list 2 | count", "ClassCast"}, {"list 9 | foo", "UnsupportedOperation"}};
    for (Object[] b : bad) {
      Check.tape(x, (String) b[0]);
      Check.same("" + b[0], Check.of(() -> x.stream()), "throws." + b[1] + "Exception");
      Check.due(() -> x.count(0), 0);
    }
    for (int i = 4; i < 24; i++) {
      x.make(0, 0, 0);
    }
    Check.tape(x, "list 3 | list");
    Check.state(() -> x.stream());
    Check.tape(x, "list 9 | map / 0 | list");
    Check.state(() -> x.stream());
    Check.tape(x, "list 0 | map / 0 | count");
    Check.arithmetic(() -> x.stream());
    x.drop(9);
    Check.tape(x, "list 0 | copies 12 | list");
    Check.due(() -> x.stream(), 9);
    Check.due(() -> x.list(9, 24, 0, 0), 12);
    Check.due(() -> x.list(9, 27, 0, 0), 12);
    Check.due(() -> x.list(9, 0, 5, 0), 13);
    Check.due(() -> x.list(9, 27, 0, 0), 18);
    x.drop(10);
    Check.due(() -> x.view(9, 0, 1, 3), 10);
    Check.tape(x, "list 10 | sum");
    Check.due(() -> x.stream(), 2);
  }
}
