/** What a run of 512 calls makes stays far below the room that it has. */
public final class RoomTest {
  private interface Turn {
    void go(LibraryDesk x, int i);
  }

  private static final long MOST = 4000000;

  private static void run(String name, Turn turn) {
    com.sun.management.ThreadMXBean bean = (com.sun.management.ThreadMXBean) java.lang.management.ManagementFactory.getThreadMXBean();
    long id = Thread.currentThread().getId();
    long best = Long.MAX_VALUE;
    for (int round = 0; round < 2; round++) {
      long before = bean.getThreadAllocatedBytes(id);
      LibraryDesk x = new LibraryDesk();
      for (int i = 0; i < 512; i++) {
        try {
          turn.go(x, i);
        } catch (RuntimeException e) {
          Check.same("no message", e.getMessage(), null);
        }
      }
      best = Math.min(best, bean.getThreadAllocatedBytes(id) - before);
    }
    System.out.println("  " + name + ": " + best + " bytes");
    if (best > MOST) {
      Check.fail(name + " takes " + best + " bytes");
    }
  }

  private static void feed(LibraryDesk x, int[] words, int length) {
    for (int i = 0; i < words.length; i += 5) {
      x.feed(words[i], words[i + 1], words[i + 2], words[i + 3], words[i + 4]);
    }
    x.end(length);
  }

  private static int[] words(String s) {
    int[] v = new int[(s.length() + 19) / 20 * 5];
    for (int i = 0; i < s.length(); i++) {
      v[i / 4] |= (s.charAt(i) & 255) << 24 - 8 * (i % 4);
    }
    return v;
  }

  private static void tape(String name, String s, Turn turn) {
    int[] v = words(s);
    run(name, (x, i) -> {
      feed(x, v, s.length());
      turn.go(x, i);
    });
  }

  /** Of some 7300 states, beside TEXTS that grow from call to call, places that come nearer, and PATTERNS that grow. */
  private static void heaviest() {
    String most = "(?:".repeat(10) + "|".repeat(18) + "){20}" + ")*".repeat(9);
    run("places that come nearer", (x, i) -> {
      if (i == 0) {
        x.make(7, 0, 0);
        x.text(0, 12, 1000, 0);
        feed(x, words(most), most.length());
        Check.due(() -> x.pattern(), 1);
      } else if (i <= 25) {
        Check.due(() -> x.match(1, 0, 1, 300 - 12 * i), 300 - 12 * i);
      }
    });
    run("TEXTS that grow", (x, i) -> {
      if (i == 0) {
        x.make(7, 0, 0);
        feed(x, words(most), most.length());
        Check.due(() -> x.pattern(), 1);
      } else if (i <= 25) {
        x.text(0, 12, 750 + 10 * i, 0);
        Check.due(() -> x.match(1, 0, 1, 0), 0);
      }
    });
    run("PATTERNS that grow", (x, i) -> {
      if (i == 0) {
        x.make(7, 0, 0);
        x.text(0, 12, 1000, 0);
      } else if (i <= 36) {
        String p = "(?:".repeat(10) + "|".repeat(i / 2) + "){20}" + "|".repeat(i % 2) + ")*".repeat(9);
        feed(x, words(p), p.length());
        Check.due(p, () -> x.pattern(), 1);
        Check.due(() -> x.match(1, 0, 1, 0), 0);
        x.drop(1);
      }
    });
  }

  public static void main(String[] args) {
    String nested = "(?:(?:(?:(?:(?:(?:(?:(?:(?:(?:a{20}b?)*){14})*c)*d)*e)*f)*g)*h)*i)*j";
    run("new objects", (x, i) -> x.make(i % 20, 1, 1));
    run("make and drop", (x, i) -> {
      if (i % 48 < 24) {
        x.make(i / 48 % 20, 1, 1);
      } else {
        x.drop(i % 48 - 24);
      }
    });
    run("lists", (x, i) -> {
      if (i < 24) {
        x.make(0, 0, 0);
        x.list(i, 0, i, 0);
      } else {
        x.list(i % 24, i % 3 == 0 ? 10 : 9, 0, i * 7 % 24);
        x.list(i % 24, 12, i % 4, 0);
      }
    });
    run("maps", (x, i) -> {
      if (i < 24) {
        x.make(2 + i % 3, 0, 0);
      }
      for (int k = 0; k < 50; k++) {
        x.map(i % 24, 0, i * 77 + k, k);
      }
    });
    tape("streams", "range 0 10000 | map + 1 | copies 9 | map % 1999 | distinct | sorted 1 | list", (x, i) -> {
      if (i < 30) {
        x.drop((int) x.stream());
      }
    });
    tape("groups", "range 0 10000 | copies 90 | group 1000", (x, i) -> {
      if (i < 10) {
        x.drop((int) x.stream());
      }
    });
    tape("patterns", "(?:(?:(?:(?:(?:a*)*)*)*)*)*(?:(b|c){3}d?)*", (x, i) -> x.drop(x.pattern()));
    tape("programs", "load 1;load 2;".repeat(29) + "end", (x, i) -> {
      int t = x.thread();
      x.run(i, 4000);
    });
    run("matches", (x, i) -> {
      if (i == 0) {
        x.make(7, 0, 0);
        feed(x, words("a"), 1);
        x.text(0, 0, 0, 0);
        x.text(0, 17, 1000, 0);
        feed(x, words(nested), nested.length());
        Check.due(() -> x.pattern(), 1);
      }
      if (i < 20) {
        x.match(1, 0, 2, i);
      }
    });
    heaviest();
    run("wholes", (x, i) -> {
      if (i < 3) {
        x.make(11, 0, 0);
        x.set(i, 3 + i);
      }
      x.whole(0, i % 13, 1, 2);
      x.whole(1, 2, 0, 2);
      x.show(1, 10);
    });
    run("decimals", (x, i) -> {
      if (i == 0) {
        feed(x, words("1.25"), 4);
      }
      if (i < 3) {
        x.make(12, 0, 0);
      }
      if (i == 3) {
        x.read(1, 10);
      }
      x.decimal(0, i % 8, 1, 1, 8 * (i % 200) + 4);
      x.show(0, 10);
    });
    tape("forms", "%d%99d".repeat(400), (x, i) -> {
      if (i == 0) {
        x.make(0, 0, 0);
        x.make(7, 0, 0);
        x.list(0, 0, 1, 0);
        for (int k = 0; k < 10; k++) {
          x.list(0, 9, 0, 0);
        }
      }
      x.form(0);
    });
    Check.end("RoomTest");
  }
}
