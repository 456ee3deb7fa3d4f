import java.util.ArrayList;
import java.util.List;
import java.util.Random;

/** Promises 15 (thread) to 19 (sync): scenes that the document tells, and turns beside a model with rows as lists. */
public final class ThreadTest {
  public static void main(String[] args) {
    programs();
    for (String program : new String[] {"load -5", "add 1", "jump 3", "zero 2", "less 1", "sleep 9", "lock 0", "try 1", "unlock 2", "wait 3", "signal 4", "all 5",
        "get 6", "set 7", "inc 8 -1", "cas 9 -1 -2", "acquire 1 2", "release 2 3", "drain 3", "down 4", "await 5", "meet 6", "put 7", "take 8", "offer 9", "poll 0",
        "give 1", "join 2"}) {
      Check.withoutBlanks(program, x -> x.thread());
    }
    plain();
    locks();
    conditions();
    permits();
    meetings();
    queues();
    cells();
    sleepers();
    interrupts();
    rings();
    turns();
    wrong();
    for (int seed = 0; seed < 12000; seed++) {
      play(Check.random(seed));
    }
    Check.end("ThreadTest");
  }

  private static int begin(LibraryDesk x, String program) {
    Check.tape(x, program);
    return x.thread();
  }

  private static void steps(LibraryDesk x, int t, int... states) {
    for (int s : states) {
      Check.due(() -> x.step(t), s);
    }
  }

  private static void looks(LibraryDesk x, int t, long... due) {
    for (int i = 0; i < due.length; i++) {
      int what = i;
      Check.due("look " + t + " " + i, () -> x.look(t, what), due[i]);
    }
  }

  private static void programs() {
    LibraryDesk x = new LibraryDesk();
    Object[][] bad = {{"", 0}, {"  ", 2}, {"foo", 0}, {"load", 4}, {"load x", 5}, {"load 1;", 7}, {"load 1; ", 8}, {"load 1 2", 7}, {";", 0}, {"load 1;;end", 7},
        {"jump 60", 5}, {"jump -1", 5}, {"zero 60", 5}, {"less x", 5}, {"lock 24", 5}, {"lock -1", 5}, {"inc 1", 5}, {"inc 24 1", 4}, {"cas 1 2", 7},
        {"acquire 1 0", 10}, {"release 1 -1", 10}, {"acquire 1", 9}, {"end 5", 4}, {"load 1234567890", 5}, {"load -", 5}, {"Load 1", 0},
        {"load 1 | end", 7}, {"load 1; ende", 8}, {"load 1\n", 5}, {"load --1", 5}, {"load 1; end; load 1; rest", 21},
        {"load5", 0}, {"load-5", 0}, {"end; load5; end", 5}, {"inc 1-2", 4}, {"cas 1 2-3", 6}, {"acquire 1x", 8}, {"lock 0unlock 0", 5}, {"end;jump0", 4},
        {"end5", 0}, {"end|end", 0}, {"end; load 5x; end", 10}, {"end;load 5x;end", 9}, {"end ;load5 ;end", 5}, {"load;end", 4}, {"load ;end", 5},
        {"end; ;end", 5}, {"inc 1;end", 5}, {"inc 1 ; end", 6}, {"load 5 x; end", 7}, {"load 5 x;", 7}, {"end\0", 0}, {"end;\0", 4}, {"end; load 5\0\0", 10},
        {"end \0", 4}, {"load 5end; end", 5}, {"end;;", 4}, {";end", 0}, {"cas 1 2 3;4", 10}, {"load 5,end", 5}, {"load 1 2\0", 7}};
    for (Object[] b : bad) {
      Check.broken(x, (String) b[0], () -> x.thread(), (Integer) b[1]);
    }
    Check.due(() -> x.look(0, 0), 0);
    LibraryDesk y = new LibraryDesk();
    Check.due(() -> begin(y, "load  7;add   -3 ;  inc 0   1"), 0);
    steps(y, 0, 1, 1, 5);
    looks(y, 0, 5, 4, 2, -1, 0, 2);
    String end = "end";
    Check.tape(x, end + ";end".repeat(59));
    Check.due(() -> x.thread(), 0);
    Check.due(() -> x.count(3), -1);
    Check.broken(x, end + ";end".repeat(60), () -> x.thread(), 240);
    Check.broken(x, end + ";  end".repeat(59) + "; foo", () -> x.thread(), 3 + 59 * 6 + 2);
    Check.broken(x, end + ";  end".repeat(59) + "; 5", () -> x.thread(), 3 + 59 * 6 + 2);
    for (int i = 1; i < 8; i++) {
      Check.due(begin(x, "load -999999999 ; end") + "", () -> x.count(0), 0);
    }
    Check.tape(x, "end");
    Check.state(() -> x.thread());
    Check.due(() -> x.count(0), 0);
    Check.broken(x, "foo", () -> x.thread(), 0);
    steps(x, 3, 1, 4);
    steps(x, 1, 1, 4, 4);
    looks(x, 1, 4, -999999999, -1, -1, 0, 0);
    Check.tape(x, "load 5");
    Check.due(() -> x.thread(), 1);
    looks(x, 1, 1, 0, 0, -1, 0, 0);
    Check.tape(x, "unlock 0");
    Check.due(() -> x.thread(), 3);
    steps(x, 3, 5, 5);
    looks(x, 3, 5, 0, 0, -1, 0, 2);
    Check.tape(x, "load 5");
    Check.due(() -> x.thread(), 3);
    looks(x, 3, 1, 0, 0, -1, 0, 0);
  }

  private static void plain() {
    LibraryDesk x = new LibraryDesk();
    begin(x, "load 3; zero 5; add -1; jump 1; load 77; less 7; add -5; jump 5");
    steps(x, 0, 1, 1, 1, 1, 1, 1, 1, 1, 1, 1, 1);
    looks(x, 0, 1, 0, 5);
    steps(x, 0, 1, 1, 1, 1);
    looks(x, 0, 1, -5, 7);
    begin(x, "jump 59");
    steps(x, 1, 4);
    looks(x, 1, 4, 0, -1, -1, 0, 0);
    begin(x, "load 1; end; load 2");
    steps(x, 1, 1, 4, 4);
    looks(x, 1, 4, 1, -1);
    begin(x, "load 1; less 0; zero 0; add 999999999; add 999999999; add 999999999");
    steps(x, 1, 1, 1, 1, 1, 1, 4);
    looks(x, 1, 4, 1 + 999999999 * 3);
    Check.due(() -> x.step(7), 0);
    looks(x, 7, 0, 0, -1, -1, 0, 0);
  }

  private static void locks() {
    LibraryDesk x = new LibraryDesk();
    x.make(13, 0, 1);
    String p = "lock 0; lock 0; unlock 0; try 0; unlock 0; unlock 0; try 0";
    begin(x, p);
    begin(x, "lock 0; try 0; load 9");
    begin(x, "try 0; lock 0; load 9");
    steps(x, 0, 1, 1);
    Check.due(() -> x.sync(0, 0), 2);
    Check.due(() -> x.sync(0, 2), 0);
    steps(x, 1, 2, 2);
    looks(x, 1, 2, 0, 0, 0, 0, 0);
    steps(x, 2, 1, 2);
    looks(x, 2, 2, 0, 1, 0, 0, 0);
    Check.due(() -> x.sync(0, 1), 2);
    steps(x, 0, 1, 1);
    looks(x, 0, 1, 1, 4);
    steps(x, 0, 1);
    Check.due(() -> x.sync(0, 2), 0);
    steps(x, 0, 1);
    Check.due(() -> x.sync(0, 2), 1);
    Check.due(() -> x.sync(0, 0), 1);
    Check.due(() -> x.sync(0, 1), 1);
    looks(x, 1, 1, 0, 1, -1);
    steps(x, 0, 4);
    looks(x, 0, 4, 0);
    steps(x, 1, 1, 4);
    looks(x, 1, 4, 9);
    Check.due(() -> x.sync(0, 2), 1);
    Check.due(() -> x.sync(0, 0), 2);
    begin(x, "try 0; unlock 0; unlock 0; unlock 0; unlock 0");
    steps(x, 0, 1, 5);
    begin(x, "end");
    begin(x, "unlock 0; unlock 0; unlock 0");
    looks(x, 1, 1, 0, 0);
    steps(x, 1, 1, 1);
    Check.due(() -> x.sync(0, 2), 2);
    steps(x, 1, 5);
    looks(x, 1, 5, 0, 2, -1, 0, 1);
    free();
  }

  /** A LOCK that is not FAIR: the first is READY in its row, and another one may come before it. */
  private static void free() {
    LibraryDesk x = new LibraryDesk();
    x.make(13, 0, 0);
    begin(x, "lock 0; unlock 0");
    begin(x, "lock 0; load 1");
    begin(x, "lock 0; unlock 0");
    steps(x, 0, 1);
    steps(x, 1, 2);
    steps(x, 0, 4);
    looks(x, 1, 1, 0, 0, -1);
    Check.due(() -> x.sync(0, 1), 1);
    Check.due(() -> x.sync(0, 2), -1);
    Check.state(() -> x.drop(0));
    steps(x, 2, 1);
    Check.due(() -> x.sync(0, 2), 2);
    steps(x, 1, 2, 2);
    looks(x, 1, 2, 0, 0, 0);
    Check.due(() -> x.sync(0, 1), 1);
    steps(x, 2, 4);
    steps(x, 1, 1);
    looks(x, 1, 1, 0, 1, -1);
    Check.due(() -> x.sync(0, 1), 0);
    Check.due(() -> x.drop(0), 1);
    steps(x, 1, 4);
  }

  private static void conditions() {
    LibraryDesk x = new LibraryDesk();
    x.make(13, 0, 1);
    begin(x, "lock 0; lock 0; wait 0; add 5");
    begin(x, "lock 0; wait 0; add 5");
    begin(x, "lock 0; all 0; unlock 0; lock 0; signal 0");
    steps(x, 0, 1, 1, 2);
    looks(x, 0, 2, 0, 2, 0);
    Check.due(() -> x.sync(0, 2), -1);
    Check.due(() -> x.sync(0, 0), 0);
    Check.due(() -> x.sync(0, 3), 1);
    Check.due(() -> x.sync(0, 1), 0);
    steps(x, 1, 1, 2);
    steps(x, 2, 1, 1);
    Check.due(() -> x.sync(0, 1), 2);
    Check.due(() -> x.sync(0, 3), 0);
    looks(x, 0, 2, 0, 2, 0);
    steps(x, 2, 1);
    Check.due(() -> x.sync(0, 2), 0);
    Check.due(() -> x.sync(0, 0), 2);
    looks(x, 0, 1, 1, 3, -1);
    steps(x, 2, 2);
    steps(x, 0, 4);
    looks(x, 0, 4, 6);
    begin(x, "unlock 0; unlock 0; signal 0; signal 1");
    steps(x, 0, 1, 1);
    looks(x, 1, 1, 1, 2, -1);
    Check.due(() -> x.sync(0, 0), 1);
    steps(x, 0, 5);
    looks(x, 0, 5, 0, 2, -1, 0, 1);
    begin(x, "all 0");
    steps(x, 0, 5);
    begin(x, "wait 0");
    steps(x, 0, 5);
    looks(x, 0, 5, 0, 0, -1, 0, 1);
    begin(x, "signal 1");
    steps(x, 0, 5);
    looks(x, 0, 5, 0, 0, -1, 0, 2);
    LibraryDesk y = new LibraryDesk();
    y.make(13, 0, 0);
    begin(y, "lock 0; wait 0");
    begin(y, "lock 0; wait 0");
    begin(y, "lock 0; signal 0; signal 0; signal 0; unlock 0");
    steps(y, 0, 1, 2);
    steps(y, 1, 1, 2);
    steps(y, 2, 1, 1);
    Check.due(() -> y.sync(0, 1), 1);
    Check.due(() -> y.sync(0, 3), 1);
    steps(y, 2, 1, 1, 4);
    looks(y, 0, 1, 0, 1, -1);
    looks(y, 1, 2, 0, 1, 0);
    steps(y, 0, 4);
    looks(y, 0, 4, 1);
    Check.due(() -> y.sync(0, 2), 0);
    Check.due(() -> y.sync(0, 0), 1);
  }

  private static void permits() {
    LibraryDesk x = new LibraryDesk();
    x.make(14, 2, 0);
    begin(x, "acquire 0 3; load 1");
    begin(x, "acquire 0 1; load 1");
    begin(x, "release 0 1; release 0 5; drain 0; drain 0");
    steps(x, 0, 2);
    steps(x, 1, 2);
    Check.due(() -> x.sync(0, 0), 2);
    Check.due(() -> x.sync(0, 1), 2);
    steps(x, 2, 1);
    Check.due(() -> x.sync(0, 0), 0);
    Check.due(() -> x.sync(0, 1), 1);
    looks(x, 0, 1, 0, 1);
    looks(x, 1, 2, 0, 0, 0);
    steps(x, 2, 1);
    looks(x, 1, 1, 0, 1);
    Check.due(() -> x.sync(0, 0), 4);
    steps(x, 2, 1);
    looks(x, 2, 1, 4);
    steps(x, 2, 4);
    looks(x, 2, 4, 0);
    x.make(14, -3, 0);
    begin(x, "drain 1; release 1 2; acquire 1 1");
    steps(x, 2, 1);
    looks(x, 2, 1, 0);
    Check.due(() -> x.sync(1, 0), -3);
    steps(x, 2, 1, 2);
    Check.due(() -> x.sync(1, 0), -1);
    begin(x, "acquire 0 5; load 1");
    begin(x, "acquire 0 1; load 1");
    steps(x, 3, 2);
    steps(x, 4, 2);
    Check.due(() -> x.interrupt(3), 1);
    looks(x, 4, 2);
    begin(x, "release 0 1");
    steps(x, 5, 4);
    looks(x, 4, 1);
    Check.due(() -> x.sync(0, 0), 0);
  }

  private static void meetings() {
    LibraryDesk x = new LibraryDesk();
    x.make(15, 2, 0);
    x.make(16, 3, 0);
    x.make(19, 0, 0);
    begin(x, "await 0; meet 1; join 2");
    begin(x, "await 0; meet 1; join 2; give 2");
    begin(x, "down 0; down 0; down 0; meet 1; load 8; give 2; join 2");
    steps(x, 0, 2);
    steps(x, 1, 2);
    Check.due(() -> x.sync(0, 1), 2);
    steps(x, 2, 1);
    Check.due(() -> x.sync(0, 0), 1);
    looks(x, 0, 2, 0, 0, 0);
    steps(x, 2, 1);
    looks(x, 0, 1, 0, 1, -1);
    looks(x, 1, 1, 0, 1, -1);
    steps(x, 2, 1);
    Check.due(() -> x.sync(0, 0), 0);
    steps(x, 0, 2);
    looks(x, 0, 2, 2, 1, 1);
    steps(x, 1, 2);
    looks(x, 1, 2, 1, 1, 1);
    Check.due(() -> x.sync(1, 0), 2);
    Check.due(() -> x.sync(1, 1), 2);
    steps(x, 2, 1);
    looks(x, 2, 1, 0, 4);
    looks(x, 0, 1, 2, 2);
    Check.due(() -> x.sync(1, 0), 0);
    steps(x, 0, 2);
    steps(x, 1, 2);
    Check.due(() -> x.sync(2, 0), Check.NONE);
    Check.due(() -> x.sync(2, 1), 2);
    steps(x, 2, 1, 1);
    looks(x, 2, 1, 1, 6);
    looks(x, 0, 4, 8);
    looks(x, 1, 1, 8, 3);
    Check.due(() -> x.sync(2, 0), 8);
    steps(x, 2, 4);
    looks(x, 2, 4, 8);
    steps(x, 1, 4);
    looks(x, 1, 4, 0);
    Check.due(() -> x.sync(2, 0), 8);
    x.make(16, 1, 0);
    begin(x, "await 0; load 5; meet 3");
    steps(x, 0, 1, 1, 4);
    looks(x, 0, 4, 0);
  }

  private static void queues() {
    LibraryDesk x = new LibraryDesk();
    x.make(17, 2, 0);
    begin(x, "take 0; take 0; load 1");
    begin(x, "load 5; put 0; load 6; put 0; load 7; put 0; load 8; put 0; offer 0");
    begin(x, "poll 0; poll 0; poll 0; poll 0; poll 0");
    steps(x, 0, 2);
    Check.due(() -> x.sync(0, 1), 1);
    steps(x, 1, 1, 1);
    looks(x, 0, 1, 5, 1);
    Check.due(() -> x.sync(0, 0), 0);
    Check.due(() -> x.sync(0, 4), 2);
    steps(x, 1, 1, 1, 1, 1, 1, 2);
    looks(x, 1, 2, 8, 7, 0);
    Check.due(() -> x.sync(0, 0), 2);
    Check.due(() -> x.sync(0, 1), 1);
    steps(x, 2, 1);
    looks(x, 2, 1, 6);
    looks(x, 1, 1, 8, 8, -1);
    Check.due(() -> x.sync(0, 0), 2);
    steps(x, 1, 4);
    looks(x, 1, 4, 0);
    steps(x, 2, 1);
    looks(x, 2, 1, 7);
    steps(x, 0, 1);
    looks(x, 0, 1, 8, 2);
    steps(x, 2, 1);
    looks(x, 2, 1, -1);
    begin(x, "take 0");
    begin(x, "take 0");
    steps(x, 1, 2);
    steps(x, 3, 2);
    begin(x, "load 3; offer 0; offer 0; offer 0; offer 0; offer 0");
    steps(x, 4, 1, 1);
    looks(x, 4, 1, 1, 2);
    looks(x, 1, 4, 3);
    looks(x, 3, 2, 0);
    steps(x, 4, 1);
    looks(x, 3, 4, 1);
    steps(x, 4, 1, 1);
    looks(x, 4, 1, 1);
    steps(x, 4, 4);
    looks(x, 4, 4, 0);
    Check.due(() -> x.sync(0, 0), 2);
  }

  private static void cells() {
    LibraryDesk x = new LibraryDesk();
    x.make(18, -4, 0);
    begin(x, "get 0; inc 0 5; set 0; load 9; set 0; cas 0 9 7; cas 0 9 7; get 0");
    steps(x, 0, 1);
    looks(x, 0, 1, -4);
    steps(x, 0, 1);
    looks(x, 0, 1, 1);
    Check.due(() -> x.sync(0, 0), 1);
    steps(x, 0, 1, 1, 1);
    Check.due(() -> x.sync(0, 0), 9);
    steps(x, 0, 1);
    looks(x, 0, 1, 1);
    steps(x, 0, 1);
    looks(x, 0, 1, 0);
    steps(x, 0, 4);
    looks(x, 0, 4, 7);
    x.make(18, Integer.MAX_VALUE, 0);
    begin(x, "inc 1 1");
    steps(x, 0, 4);
    Check.due(() -> x.sync(1, 0), Integer.MIN_VALUE);
    Check.due(() -> x.sync(1, 1), 0);
  }

  private static void sleepers() {
    LibraryDesk x = new LibraryDesk();
    begin(x, "sleep 0; sleep -5; sleep 10; load 1");
    begin(x, "sleep 11");
    begin(x, "sleep 30; load 1");
    Check.due(() -> x.tick(5), 0);
    steps(x, 0, 1, 1, 3, 3);
    looks(x, 0, 3, 0, 2, -1, 0, 0);
    steps(x, 1, 3);
    steps(x, 2, 3);
    Check.due(() -> x.tick(9), 0);
    Check.due(() -> x.tick(0), 0);
    Check.due(() -> x.tick(1), 1);
    looks(x, 0, 1, 0, 3);
    Check.due(() -> x.count(5), 15);
    Check.due(() -> x.tick(100), 2);
    looks(x, 1, 4, 0, -1);
    looks(x, 2, 1, 0, 1);
    Check.illegal(() -> x.tick(-1));
    Check.illegal(() -> x.tick(Integer.MIN_VALUE));
    begin(x, "sleep 999999999");
    steps(x, 1, 3);
    Check.due(() -> x.tick(999999998), 0);
    Check.due(() -> x.interrupt(1), 1);
    looks(x, 1, 4, -2, -1);
    Check.due(() -> x.tick(5), 0);
  }

  private static void interrupts() {
    LibraryDesk x = new LibraryDesk();
    x.make(13, 0, 1);
    x.make(17, 1, 0);
    Check.due(() -> x.interrupt(0), 0);
    begin(x, "load 4; sleep 0; take 1; take 1");
    Check.due(() -> x.interrupt(0), 1);
    Check.due(() -> x.interrupt(0), 1);
    looks(x, 0, 1, 0, 0, -1, 1);
    steps(x, 0, 1, 1);
    looks(x, 0, 1, 4, 2, -1, 1);
    steps(x, 0, 1);
    looks(x, 0, 1, -2, 3, -1, 0);
    steps(x, 0, 2);
    Check.due(() -> x.interrupt(0), 1);
    looks(x, 0, 4, -2, -1, -1, 0);
    Check.due(() -> x.sync(1, 1), 0);
    Check.due(() -> x.interrupt(0), 0);
    begin(x, "lock 0; sleep 5; wait 0; wait 0; unlock 0");
    begin(x, "lock 0; sleep 3");
    steps(x, 0, 1);
    Check.due(() -> x.interrupt(0), 1);
    steps(x, 0, 1);
    looks(x, 0, 1, -2, 2, -1, 0);
    Check.due(() -> x.interrupt(0), 1);
    steps(x, 0, 1);
    looks(x, 0, 1, -2, 3, -1, 0);
    Check.due(() -> x.sync(0, 2), 0);
    Check.due(() -> x.interrupt(1), 1);
    steps(x, 1, 2);
    looks(x, 1, 2, 0, 0, 0, 1);
    Check.due(() -> x.interrupt(1), 1);
    looks(x, 1, 1, -2, 1, -1, 1);
    Check.due(() -> x.sync(0, 1), 0);
    steps(x, 1, 4);
    looks(x, 1, 4, -2, -1, -1, 0);
    steps(x, 0, 2);
    Check.due(() -> x.sync(0, 2), -1);
    Check.due(() -> x.interrupt(0), 1);
    looks(x, 0, 1, -2, 4, -1, 0);
    Check.due(() -> x.sync(0, 2), 0);
    Check.due(() -> x.sync(0, 0), 1);
    steps(x, 0, 4);
    unfair();
    for (int t : new int[] {-1, 8, Integer.MAX_VALUE}) {
      Check.illegal(() -> x.interrupt(t));
      Check.illegal(() -> x.step(t));
      Check.illegal(() -> x.look(t, 0));
    }
  }

  private static void unfair() {
    LibraryDesk x = new LibraryDesk();
    x.make(13, 0, 0);
    begin(x, "lock 0; wait 0; load 3");
    begin(x, "lock 0; wait 0; load 3");
    begin(x, "lock 0; signal 0; unlock 0; sleep 1");
    steps(x, 0, 1, 2);
    steps(x, 1, 1, 2);
    Check.due(() -> x.interrupt(1), 1);
    looks(x, 1, 1, 0, 1, -1, 0);
    Check.due(() -> x.sync(0, 1), 1);
    Check.due(() -> x.sync(0, 3), 1);
    Check.due(() -> x.interrupt(1), 1);
    looks(x, 1, 1, 0, 1, -1, 1);
    Check.due(() -> x.interrupt(0), 1);
    looks(x, 0, 2, 0, 1, 0, 0);
    Check.due(() -> x.sync(0, 1), 2);
    Check.due(() -> x.interrupt(0), 1);
    looks(x, 0, 2, 0, 1, 0, 0);
    steps(x, 2, 1);
    steps(x, 1, 2);
    looks(x, 1, 2, 0, 1, 0, 1);
    steps(x, 2, 1, 1);
    looks(x, 1, 1, 0, 1, -1, 1);
    steps(x, 1, 1);
    looks(x, 1, 1, -2, 2, -1, 1);
    Check.due(() -> x.sync(0, 2), 1);
    looks(x, 0, 2);
  }

  private static void rings() {
    LibraryDesk x = new LibraryDesk();
    for (int i = 0; i < 4; i++) {
      x.make(13, 0, i % 2);
    }
    begin(x, "lock 3; lock 0");
    begin(x, "lock 0; lock 1");
    begin(x, "lock 1; lock 2");
    begin(x, "lock 2; lock 0; lock 1");
    for (int t = 0; t < 4; t++) {
      steps(x, t, 1);
    }
    steps(x, 0, 2);
    steps(x, 1, 2);
    steps(x, 2, 2);
    Check.due(() -> x.dead(), -1);
    steps(x, 3, 2);
    Check.due(() -> x.dead(), 1);
    x.interrupt(2);
    Check.due(() -> x.dead(), -1);
  }

  private static void turns() {
    LibraryDesk x = new LibraryDesk();
    Check.due(() -> x.run(1, 4000), 0);
    Check.illegal(() -> x.run(1, 4001));
    Check.illegal(() -> x.run(1, -1));
    begin(x, "add 1; jump 0");
    begin(x, "add 1; jump 0");
    begin(x, "end");
    Check.due(() -> x.run(5, 0), 0);
    int seed = 99;
    int[] n = new int[3];
    boolean three = true;
    for (int i = 0; i < 200; i++) {
      seed = seed * 1103515245 + 12345;
      int t = (seed >>> 8) % (three ? 3 : 2);
      n[t]++;
      three &= t != 2;
    }
    Check.due(() -> x.run(99, 200), 200);
    Check.due(() -> x.look(0, 1), (n[0] + 1) / 2);
    Check.due(() -> x.look(1, 1), (n[1] + 1) / 2);
    Check.due(() -> x.look(2, 0), three ? 1 : 4);
    Check.due(() -> x.run(1, 4000), 4000);
    LibraryDesk y = new LibraryDesk();
    begin(y, "load 1; load 2");
    begin(y, "load 1; sleep 9");
    Check.due(() -> y.run(3, 100), 4);
  }

  private static void wrong() {
    LibraryDesk x = new LibraryDesk();
    x.make(0, 0, 0);
    x.make(13, 0, 0);
    x.make(14, 5, 0);
    x.make(17, 5, 0);
    for (String p : new String[] {"lock 0", "try 2", "unlock 23", "wait 2", "signal 2", "all 2", "get 1", "set 1", "inc 1 1", "cas 1 1 1", "acquire 1 1",
        "release 1 1", "drain 1", "down 1", "await 1", "meet 1", "put 1", "take 1", "offer 1", "poll 1", "give 1", "join 1"}) {
      LibraryDesk y = x;
      int t = begin(y, p);
      steps(y, t, 5, 5);
      looks(y, t, 5, 0, 0, -1, 0, 2);
    }
    Check.cast(() -> x.sync(0, 9));
    Check.none(() -> x.sync(9, 9));
    Check.illegal(() -> x.sync(1, 5));
    Check.illegal(() -> x.sync(1, -1));
    Check.unsupported(() -> x.sync(2, 2));
    Check.unsupported(() -> x.sync(3, 3));
    Check.unsupported(() -> x.sync(1, 4));
    Check.due(() -> x.sync(3, 4), 5);
    Check.due(() -> x.sync(1, 2), -1);
    Check.due(() -> x.sync(1, 3), 0);
    Check.illegal(() -> x.look(0, 6));
    Check.illegal(() -> x.look(0, -1));
  }

  // the model

  private static final class Ob {
    int kind;
    int a;
    int b;
    int value;
    boolean has;
    Th owner;
    List<Integer> queue = new ArrayList<>();
    List<Th> first = new ArrayList<>();
    List<Th> second = new ArrayList<>();
  }

  private static final class Th {
    int number;
    int state = 1;
    int a;
    int pc;
    int why;
    boolean flag;
    String[] code;
    Ob at;
    int hold;
    int later;
    long until;

    String[] now() {
      return code[pc].trim().split(" +");
    }

    void next() {
      go(pc + 1);
    }

    void go(int k) {
      pc = k;
      if (pc >= code.length) {
        state = 4;
      }
    }

    void awake() {
      state = 1;
      at = null;
      next();
    }
  }

  private static final List<Ob> obs = new ArrayList<>();
  private static final Th[] ths = new Th[8];
  private static long clock;

  private static void have(Ob o, Th t) {
    o.first.remove(t);
    o.owner = t;
    o.value = t.hold > 0 ? t.hold : 1;
    if (t.hold > 0) {
      t.a = t.later;
    }
    t.hold = 0;
    t.awake();
  }

  private static void release(Ob o) {
    o.owner = null;
    o.value = 0;
    if (!o.first.isEmpty()) {
      if (o.b == 1) {
        have(o, o.first.get(0));
      } else {
        o.first.get(0).state = 1;
      }
    }
  }

  /** True if it does not wait, for an interrupt. */
  private static boolean spared(Th t) {
    if (t.flag) {
      t.flag = false;
      t.a = -2;
      t.next();
      return true;
    }
    return false;
  }

  private static void park(Th t, Ob o) {
    if (!spared(t)) {
      t.state = 2;
      t.at = o;
      o.first.add(t);
    }
  }

  private static void wakeAll(Ob o) {
    while (!o.first.isEmpty()) {
      o.first.remove(0).awake();
    }
  }

  private static boolean owns(Ob o, Th t) {
    return o.owner != null && o.owner.number == t.number;
  }

  private static void step(Th t) {
    if (t == null || t.state != 1) {
      return;
    }
    if (t.at != null) {
      if (t.at.owner == null) {
        have(t.at, t);
      } else {
        t.state = 2;
      }
      return;
    }
    String[] w = t.now();
    int n = w.length > 1 ? Integer.parseInt(w[1]) : 0;
    int m = w.length > 2 ? Integer.parseInt(w[2]) : 0;
    String alone = " load add jump zero less sleep end ";
    if (alone.contains(" " + w[0] + " ")) {
      switch (w[0]) {
        case "load":
          t.a = n;
          break;
        case "add":
          t.a += n;
          break;
        case "sleep":
          if (n > 0) {
            if (!spared(t)) {
              t.state = 3;
              t.until = clock + n;
            }
            return;
          }
          break;
        case "end":
          t.go(99);
          return;
        default:
          if (w[0].equals("jump") || w[0].equals("zero") && t.a == 0 || w[0].equals("less") && t.a < 0) {
            t.go(n);
            return;
          }
          break;
      }
      t.next();
      return;
    }
    int kind = " lock try unlock wait signal all ".contains(" " + w[0] + " ") ? 13 : " acquire release drain ".contains(" " + w[0] + " ") ? 14
        : " down await ".contains(" " + w[0] + " ") ? 15 : w[0].equals("meet") ? 16 : " put take offer poll ".contains(" " + w[0] + " ") ? 17
        : " give join ".contains(" " + w[0] + " ") ? 19 : 18;
    Ob o = n < obs.size() ? obs.get(n) : null;
    if (o == null || o.kind != kind) {
      t.state = 5;
      t.why = 2;
      return;
    }
    if (kind == 13) {
      lockStep(t, o, w[0]);
    } else {
      otherStep(t, o, w, m);
    }
  }

  private static void lockStep(Th t, Ob o, String w) {
    if (w.equals("lock") || w.equals("try")) {
      boolean can = o.owner == null || owns(o, t);
      if (can) {
        o.owner = t;
        o.value++;
      }
      if (w.equals("try")) {
        t.a = can ? 1 : 0;
      } else if (!can) {
        t.state = 2;
        t.at = o;
        o.first.add(t);
        return;
      }
      t.next();
      return;
    }
    if (!owns(o, t)) {
      t.state = 5;
      t.why = 1;
      return;
    }
    if (w.equals("unlock")) {
      if (--o.value == 0) {
        release(o);
      }
      t.next();
    } else if (w.equals("wait")) {
      if (!spared(t)) {
        t.hold = o.value;
        t.later = 1;
        t.state = 2;
        t.at = o;
        release(o);
        o.second.add(t);
      }
    } else {
      for (int k = w.equals("all") ? 9 : 1; k > 0 && !o.second.isEmpty(); k--) {
        o.first.add(o.second.remove(0));
      }
      t.next();
    }
  }

  private static void otherStep(Th t, Ob o, String[] w, int m) {
    boolean full = o.queue.size() >= o.a;
    switch (w[0]) {
      case "acquire":
        if (o.value < m || !o.first.isEmpty()) {
          park(t, o);
          return;
        }
        o.value -= m;
        break;
      case "release":
        o.value += m;
        while (!o.first.isEmpty() && Integer.parseInt(o.first.get(0).now()[2]) <= o.value) {
          o.value -= Integer.parseInt(o.first.get(0).now()[2]);
          o.first.remove(0).awake();
        }
        break;
      case "drain":
        t.a = o.value > 0 ? o.value : 0;
        o.value = o.value > 0 ? 0 : o.value;
        break;
      case "down":
        if (o.value > 0 && --o.value == 0) {
          wakeAll(o);
        }
        break;
      case "await":
        if (o.value > 0) {
          park(t, o);
          return;
        }
        break;
      case "meet":
        t.a = o.a - 1 - o.first.size();
        if (t.a > 0) {
          park(t, o);
          return;
        }
        wakeAll(o);
        break;
      case "put":
      case "offer":
        if (full) {
          if (w[0].equals("put")) {
            park(t, o);
            return;
          }
          t.a = 0;
          break;
        }
        if (o.queue.isEmpty() && !o.first.isEmpty()) {
          o.first.get(0).a = t.a;
          o.first.remove(0).awake();
        } else {
          o.queue.add(t.a);
        }
        t.a = w[0].equals("offer") ? 1 : t.a;
        break;
      case "take":
      case "poll":
        if (o.queue.isEmpty()) {
          if (w[0].equals("take")) {
            park(t, o);
            return;
          }
          t.a = -1;
          break;
        }
        t.a = o.queue.remove(0);
        if (!o.first.isEmpty()) {
          o.queue.add(o.first.get(0).a);
          o.first.remove(0).awake();
        }
        break;
      case "give":
        if (!o.has) {
          o.has = true;
          o.value = t.a;
          for (Th f : o.first) {
            f.a = t.a;
          }
          wakeAll(o);
          t.a = 1;
        } else {
          t.a = 0;
        }
        break;
      case "join":
        if (!o.has) {
          park(t, o);
          return;
        }
        t.a = o.value;
        break;
      case "get":
        t.a = o.value;
        break;
      case "set":
        o.value = t.a;
        break;
      case "inc":
        o.value += m;
        t.a = o.value;
        break;
      default:
        t.a = o.value == m ? 1 : 0;
        o.value = o.value == m ? Integer.parseInt(w[3]) : o.value;
        break;
    }
    t.next();
  }

  private static int interrupt(Th t) {
    if (t == null || t.state > 3) {
      return 0;
    }
    if (t.state == 1) {
      t.flag = true;
    } else if (t.state == 2 && t.hold > 0) {
      t.later = -2;
      Ob o = t.at;
      if (o.second.remove(t)) {
        o.first.add(t);
        if (o.owner == null && o.first.size() == 1) {
          release(o);
        }
      }
    } else {
      if (t.at != null) {
        t.at.first.remove(t);
      }
      t.a = -2;
      t.awake();
    }
    return 1;
  }

  private static int tick(int n) {
    clock += n;
    int k = 0;
    for (Th t : ths) {
      if (t != null && t.state == 3 && t.until <= clock) {
        t.awake();
        k++;
      }
    }
    return k;
  }

  private static int dead() {
    for (int t = 0; t < 8; t++) {
      Th u = ths[t];
      for (int n = 0; n < 9 && u != null; n++) {
        boolean waits = u.state == 2 && u.at.kind == 13 && u.at.first.contains(u);
        u = waits && u.at.owner != null ? ths[u.at.owner.number] : null;
        if (u == ths[t] && u != null) {
          return t;
        }
      }
    }
    return -1;
  }

  private static final String[] WORDS = {"load #", "add #", "jump ^", "zero ^", "less ^", "sleep #", "end", "lock 0", "try 0", "unlock 0", "wait 0",
      "signal 0", "all 0", "lock 1", "try 1", "unlock 1", "wait 1", "signal 1", "all 1", "get 7", "set 7", "inc 7 #", "cas 7 # #", "acquire 2 @", "release 2 @",
      "drain 2", "down 3", "await 3", "meet 4", "put 5", "take 5", "offer 5", "poll 5", "give 6", "join 6", "lock 9", "get 3"};

  private static String draw(Random r, int[] liked) {
    StringBuilder b = new StringBuilder();
    int n = 1 + r.nextInt(12);
    for (int i = 0; i < n; i++) {
      String w = WORDS[r.nextInt(3) > 0 ? liked[r.nextInt(liked.length)] : r.nextInt(WORDS.length - (r.nextInt(4) == 0 ? 0 : 2))];
      while (w.contains("#")) {
        w = w.replaceFirst("#", "" + (r.nextInt(6) - 2));
      }
      w = w.replace("^", "" + r.nextInt(n + 1)).replace("@", "" + (1 + r.nextInt(3)));
      b.append(i > 0 ? "; " : "").append(w);
    }
    return b.toString();
  }

  private static void play(Random r) {
    LibraryDesk x = new LibraryDesk();
    obs.clear();
    clock = 0;
    int[] a = {0, 0, r.nextInt(4) - 1, r.nextInt(3), 1 + r.nextInt(3), 1 + r.nextInt(2), 0, 2};
    int fair = r.nextInt(2);
    for (int i = 0; i < 8; i++) {
      ths[i] = null;
      Ob o = new Ob();
      o.kind = new int[] {13, 13, 14, 15, 16, 17, 19, 18}[i];
      o.a = a[i];
      o.b = i == 0 ? fair : 0;
      o.value = o.kind == 13 || o.kind == 19 ? 0 : a[i];
      obs.add(o);
      int k = i;
      Check.due(() -> x.make(o.kind, a[k], o.b), i);
    }
    int[][] liking = {{7, 9, 10, 11, 12}, {7, 8, 9, 13, 14, 15}, {7, 13, 9, 15}, {23, 24, 25}, {26, 27, 28, 33, 34}, {29, 30, 31, 32}, {7, 10, 7, 9, 11}, {0, 1, 5, 19, 21}};
    int[] liked = liking[r.nextInt(liking.length)];
    for (int call = 0; call < 70; call++) {
      int t = r.nextInt(1 + r.nextInt(8));
      int what = r.nextInt(12);
      if (what == 0 || call < 3) {
        String p = draw(r, liked);
        int free = 0;
        while (free < 8 && ths[free] != null && ths[free].state < 4) {
          free++;
        }
        Check.tape(x, p);
        int n = free;
        if (n == 8) {
          Check.state(() -> x.thread());
        } else {
          Check.due(p, () -> x.thread(), n);
          ths[n] = new Th();
          ths[n].number = n;
          ths[n].code = p.split(";");
        }
      } else if (what == 1) {
        Check.due("interrupt", () -> x.interrupt(t), interrupt(ths[t]));
      } else if (what == 2) {
        int n = r.nextInt(3);
        Check.due("tick", () -> x.tick(n), tick(n));
      } else if (what == 3) {
        turns(x, r.nextInt(), r.nextInt(12));
      } else {
        step(ths[t]);
        Check.due("step " + t, () -> x.step(t), ths[t] == null ? 0 : ths[t].state);
      }
      compare(x);
    }
  }

  private static void turns(LibraryDesk x, int s, int n) {
    int done = 0;
    for (int seed = s; done < n; done++) {
      List<Th> ready = new ArrayList<>();
      for (Th t : ths) {
        if (t != null && t.state == 1) {
          ready.add(t);
        }
      }
      if (ready.isEmpty()) {
        break;
      }
      seed = seed * 1103515245 + 12345;
      step(ready.get((seed >>> 8) % ready.size()));
    }
    Check.due("run", () -> x.run(s, n), done);
  }

  private static void compare(LibraryDesk x) {
    for (int i = 0; i < 8; i++) {
      Th t = ths[i];
      if (t != null) {
        looks(x, i, t.state, t.a, t.state == 4 ? -1 : t.pc, t.state == 2 ? obs.indexOf(t.at) : -1, t.flag ? 1 : 0, t.why);
      }
    }
    Check.due("dead", () -> x.dead(), dead());
    for (int i = 0; i < 8; i++) {
      Ob o = obs.get(i);
      int k = i;
      Check.due("sync 0 of " + o.kind, () -> x.sync(k, 0), o.kind == 16 ? o.first.size() : o.kind == 17 ? o.queue.size() : o.kind == 19 && !o.has ? Check.NONE : o.value);
      Check.due("sync 1 of " + o.kind, () -> x.sync(k, 1), o.first.size());
      if (o.kind == 13) {
        Check.due("sync 2", () -> x.sync(k, 2), o.owner == null ? -1 : o.owner.number);
        Check.due("sync 3", () -> x.sync(k, 3), o.second.size());
      }
    }
  }
}
