/** All that can be seen of a desk by calls that change nothing, but THE TAPE and PLACE. */
final class State {
  private final LibraryDesk x;
  private final StringBuilder seen = new StringBuilder();

  private State(LibraryDesk x) {
    this.x = x;
  }

  static String of(LibraryDesk x) {
    State s = new State(x);
    for (int what : new int[] {1, 2, 4, 5}) {
      s.see(() -> x.count(what));
    }
    s.seen.append(Check.out(x));
    for (int i = 0; i < 20; i++) {
      int k = i;
      s.see(() -> x.group(k / 2, k % 2));
    }
    for (int i = 0; i < 48; i++) {
      int k = i;
      s.see(() -> x.look(k / 6, k % 6));
    }
    s.see(() -> x.dead());
    for (int o = 0; o < 24; o++) {
      s.object(o, (int) x.count(10 + o));
    }
    return s.seen.toString();
  }

  /** What can be seen of OBJECT o alone. */
  static String of(LibraryDesk x, int o) {
    State s = new State(x);
    s.object(o, (int) x.count(10 + o));
    return s.seen.toString();
  }

  private void see(Check.Call call) {
    String answer;
    try {
      answer = "" + call.go();
    } catch (RuntimeException e) {
      answer = e.getClass().getSimpleName();
    }
    seen.append(answer).append(' ');
  }

  private void object(int o, int kind) {
    seen.append("\n").append(o).append(" is ").append(kind).append(": ");
    if (kind == 0 || kind == 10 || kind == 1) {
      rows(o, kind);
    } else if (kind >= 2 && kind <= 4 || kind == 20) {
      maps(o);
    } else if (kind == 9) {
      for (int op : new int[] {2, 3, 4, 8}) {
        see(() -> x.move(o, op, 0));
      }
    } else if (kind == 5) {
      for (int op : new int[] {2, 4, 5}) {
        see(() -> x.heap(o, op, 0));
      }
    } else if (kind == 6) {
      for (int i = 0; i < 64; i++) {
        int a = i;
        see(() -> x.bits(o, 19, a, 0));
      }
    } else if (kind == 7) {
      for (int op : new int[] {10, 11, 18}) {
        see(() -> x.text(o, op, 0, 0));
      }
    } else if (kind == 11 || kind == 12) {
      for (int what = 0; what < 7; what++) {
        int w = what;
        see(() -> w == 5 ? 0 : x.tell(o, w));
      }
    } else if (kind >= 13 && kind <= 19) {
      for (int what = 0; what < 5; what++) {
        int w = what;
        see(() -> x.sync(o, w));
      }
    }
  }

  private void rows(int o, int kind) {
    see(() -> kind == 1 ? x.ring(o, 6, 0) : x.list(o, 24, 0, 0));
    see(() -> kind == 1 ? x.ring(o, 7, 0) : x.list(o, 27, 0, 0));
    for (String size = Check.of(() -> kind == 1 ? x.ring(o, 6, 0) : x.list(o, 24, 0, 0)); !size.startsWith("throws."); size = "throws.") {
      for (int i = 0; i < Integer.parseInt(size); i++) {
        int k = i;
        see(() -> x.item(o, k, 0));
      }
    }
  }

  private void maps(int o) {
    see(() -> x.map(o, 21, 0, 0));
    see(() -> x.map(o, 22, 0, 0));
    long size = x.map(o, 4, 0, 0);
    for (int i = 0; i < size; i++) {
      int k = i;
      see(() -> x.item(o, k, 0));
      see(() -> x.item(o, k, 1));
    }
  }
}
