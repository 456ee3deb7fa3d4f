/** The edges that the document names of THREADS and their OBJECTS (promises 15 to 19). */
public final class EdgeThreadTest {
  private static final int LOW = Integer.MIN_VALUE;
  private static final int HIGH = Integer.MAX_VALUE;

  public static void main(String[] args) {
    sixtyInstructions();
    numbersOfWords();
    blanksAndParts();
    leastThreadThatIsFree();
    eightThreads();
    threadNumbers();
    behindTheLast();
    jumps();
    signsOfA();
    intsWrap();
    runsUpTo();
    runsAsLongAsReady();
    drawnBySeed();
    ticks();
    sleeps();
    clockIsLong();
    interruptedOrNot();
    interruptsThatStay();
    interruptedWaits();
    interruptedBeforeWait();
    interruptedSleeps();
    staysInItsPlace();
    looks();
    objectsOfAnotherKind();
    locksOfTheirOwn();
    notItsOwn();
    fairOrNot();
    locksThatStay();
    conditions();
    lockedBehindAWait();
    keepsA();
    comesBackToAFreeLock();
    permits();
    permitsInOrder();
    permitsOfEach();
    latches();
    barriers();
    queueRoom();
    queueRows();
    offersAndPolls();
    cells();
    futures();
    futuresGiveA();
    droppedWithARow();
    rings();
    ringsOfWaitingOnes();
    syncs();
    Check.end("EdgeThreadTest");
  }

  private static LibraryDesk desk(int... make) {
    LibraryDesk x = new LibraryDesk();
    for (int i = 0; i < make.length; i += 3) {
      x.make(make[i], make[i + 1], make[i + 2]);
    }
    return x;
  }

  private static int begin(LibraryDesk x, String program) {
    Check.tape(x, program);
    return x.thread();
  }

  private static void begin(LibraryDesk x, String... programs) {
    for (String p : programs) {
      begin(x, p);
    }
  }

  private static void steps(LibraryDesk x, int t, int... states) {
    for (int s : states) {
      Check.due(() -> x.step(t), s);
    }
  }

  private static void looks(LibraryDesk x, int t, long... due) {
    for (int i = 0; i < due.length; i++) {
      int what = i;
      Check.due("look " + t + " " + i, () -> x.look(t, what), due[i]);
    }
  }

  private static void breaks(String program, int place) {
    LibraryDesk x = desk();
    Check.broken(x, program, () -> x.thread(), place);
  }

  private static void good(String program) {
    LibraryDesk x = desk();
    Check.tape(x, program);
    Check.due(program, () -> x.thread(), 0);
    Check.due(() -> x.count(3), -1);
    Check.due(() -> x.count(0), 0);
    looks(x, 0, 1, 0, 0, -1, 0, 0);
  }

  /** "1 to 60 INSTRUCTIONS"; "(a 61st: its first byte)". */
  private static void sixtyInstructions() {
    breaks("", 0);
    breaks(" ", 1);
    good("end");
    good("end" + ";end".repeat(59));
    good("end" + " ; end".repeat(59));
    breaks("end" + ";end".repeat(60), 3 + 59 * 4 + 1);
    breaks("end" + " ;  end".repeat(60), 3 + 59 * 7 + 4);
    breaks("end" + ";end".repeat(59) + ";x", 3 + 59 * 4 + 1);
    breaks("end" + ";end".repeat(59) + ";", 3 + 59 * 4 + 1);
    breaks("end" + ";end".repeat(59) + ";  ", 3 + 59 * 4 + 3);
    breaks("end" + ";end".repeat(58) + ";ende;end", 3 + 58 * 4 + 1);
    breaks("end" + ";end".repeat(59) + " end", 3 + 59 * 4 + 1);
    LibraryDesk x = desk();
    begin(x, "add 1;".repeat(59) + "add 1");
    for (int i = 0; i < 59; i++) {
      steps(x, 0, 1);
    }
    looks(x, 0, 1, 59, 59);
    steps(x, 0, 4);
    looks(x, 0, 4, 60, -1);
  }

  private static final String[] OF_LOCKS = {"lock", "try", "unlock", "wait", "signal", "all"};
  private static final String[] OF_ONE = {"lock", "try", "unlock", "wait", "signal", "all", "get", "set", "drain", "down", "await", "meet", "put", "take", "offer", "poll", "give", "join"};

  /** "([-] 1 to 9 digits; o 0 .. 23, k 0 .. 59)", "acquire o n (1 or more)", "release o n (1 or more)". */
  private static void numbersOfWords() {
    for (String w : new String[] {"load", "add", "sleep"}) {
      number(w + " ", "", new String[] {"0", "-0", "999999999", "-999999999", "000000001", "-1"}, new String[] {"1000000000", "-1000000000", "0000000000", "--1", "+1", "-", "1-", "x", "1x"});
    }
    for (String w : new String[] {"jump", "zero", "less"}) {
      number(w + " ", "", new String[] {"0", "59", "059"}, new String[] {"60", "-1", "x", "1000000000"});
    }
    for (String w : OF_ONE) {
      number(w + " ", "", new String[] {"0", "23"}, new String[] {"24", "-1", "x", "1000000000"});
    }
    for (String w : new String[] {"acquire", "release"}) {
      number(w + " ", " 1", new String[] {"0", "23"}, new String[] {"24", "-1", "x"});
      number(w + " 0 ", "", new String[] {"1", "999999999"}, new String[] {"0", "-1", "x", "1000000000"});
    }
    number("inc ", " 1", new String[] {"0", "23"}, new String[] {"24", "-1"});
    number("inc 0 ", "", new String[] {"0", "-999999999", "999999999"}, new String[] {"x", "-1000000000"});
    number("cas ", " 1 1", new String[] {"0", "23"}, new String[] {"24", "-1"});
    number("cas 0 ", " 1", new String[] {"-999999999", "999999999"}, new String[] {"x", "1000000000"});
    number("cas 0 1 ", "", new String[] {"-999999999", "999999999"}, new String[] {"x", "1000000000"});
    LibraryDesk x = desk();
    for (int b = 0; b < 256; b++) {
      if (b != ' ' && b != ';' && (b < '0' || b > '9')) {
        Check.broken(x, "load 1" + (char) b + ";end", () -> x.thread(), 5);
        Check.broken(x, "load 1;inc 2 3" + (char) b + "4", () -> x.thread(), 13);
        Check.broken(x, "load " + (char) b, () -> x.thread(), 5);
        if (b != '-') {
          Check.broken(x, "load " + (char) b + "1", () -> x.thread(), 5);
        }
      }
    }
  }

  private static void number(String before, String behind, String[] may, String[] not) {
    for (String n : may) {
      good(before + n + behind);
      good("end; " + before + n + behind + ";end");
      breaks(before + n + behind + " 1", (before + n + behind).length() + 1);
    }
    for (String n : not) {
      breaks(before + n + behind, before.length());
      breaks("end;" + before + n + behind + "; end", before.length() + 4);
    }
    breaks(before, before.length());
    breaks(before + ";end", before.length());
    breaks(before.trim(), before.length() - 1);
  }

  /** "; between: a word and numbers, .. blanks between". */
  private static void blanksAndParts() {
    good("load   5  ;  add   -3");
    good("load 5;add -3");
    breaks("load5", 0);
    breaks("load 5 add 3", 7);
    breaks("load 5,add 3", 5);
    breaks(";end", 0);
    breaks("end;", 4);
    breaks("end; ", 5);
    breaks("end;;end", 4);
    breaks("end; ;end", 5);
    breaks("End", 0);
    breaks("ends", 0);
    breaks("en", 0);
    breaks("end end", 4);
    breaks("end;stop", 4);
    breaks("load\t5", 0);
    breaks("end\n", 0);
    breaks("end;end\0", 4);
    for (String w : OF_ONE) {
      breaks(w.toUpperCase() + " 0", 0);
      breaks(w + "x 0", 0);
    }
  }

  /** "It is that of the least THREAD that is none, ENDED or FAILED .., READY at the first one, A 0, no interrupt." */
  private static void leastThreadThatIsFree() {
    LibraryDesk x = desk(13, 0, 0);
    Check.due(() -> begin(x, "jump 0"), 0);
    Check.due(() -> begin(x, "load 5; unlock 0"), 1);
    Check.due(() -> begin(x, "load 7"), 2);
    Check.due(() -> begin(x, "sleep 5"), 3);
    Check.due(() -> begin(x, "lock 0;lock 1"), 4);
    steps(x, 2, 4);
    x.interrupt(1);
    steps(x, 1, 1, 5);
    looks(x, 1, 5, 5, 1, -1, 1, 1);
    steps(x, 3, 3);
    steps(x, 4, 1, 5);
    looks(x, 4, 5, 0, 1, -1, 0, 2);
    Check.due(() -> begin(x, "jump 0"), 1);
    looks(x, 1, 1, 0, 0, -1, 0, 0);
    Check.due(() -> begin(x, "jump 0"), 2);
    looks(x, 2, 1, 0, 0, -1, 0, 0);
    Check.due(() -> begin(x, "jump 0"), 4);
    looks(x, 4, 1, 0, 0, -1, 0, 0);
    Check.due(() -> begin(x, "jump 0"), 5);
    x.tick(5);
    Check.due(() -> begin(x, "jump 0"), 3);
  }

  /** "THREADS 0 .. 7"; "(else full)", behind what is broken. */
  private static void eightThreads() {
    LibraryDesk x = desk(13, 0, 0);
    String[] programs = {"jump 0", "sleep 9", "lock 0;sleep 9", "lock 0", "wait 0", "jump 0", "jump 0", "jump 0"};
    for (int i = 0; i < 8; i++) {
      int t = i;
      Check.due(() -> begin(x, programs[t]), t);
    }
    steps(x, 1, 3);
    steps(x, 2, 1, 3);
    steps(x, 3, 2);
    Check.tape(x, "end");
    Check.state(x, () -> x.thread());
    Check.due(() -> x.count(0), 0);
    Check.due(() -> x.count(3), -1);
    Check.broken(x, "end;", () -> x.thread(), 4);
    steps(x, 4, 5);
    Check.due(() -> begin(x, "jump 0"), 4);
    Check.tape(x, "end");
    Check.state(x, () -> x.thread());
    x.tick(9);
    Check.due(() -> begin(x, "jump 0"), 1);
  }

  /** "t 0 .. 7 (so for interrupt, look)"; look: "what 0 .. 5". */
  private static void threadNumbers() {
    LibraryDesk x = desk();
    begin(x, "jump 0");
    for (int t : new int[] {-1, 8, LOW, HIGH}) {
      Check.illegal(x, () -> x.step(t));
      Check.illegal(x, () -> x.interrupt(t));
      Check.illegal(x, () -> x.look(t, 0));
      Check.illegal(x, () -> x.look(t, 6));
    }
    for (int what : new int[] {-1, 6, LOW, HIGH}) {
      Check.illegal(x, () -> x.look(0, what));
      Check.illegal(x, () -> x.look(7, what));
    }
    Check.still(x, () -> x.step(7), 0);
    Check.still(x, () -> x.interrupt(7), 0);
    looks(x, 7, 0, 0, -1, -1, 0, 0);
  }

  /** "(behind the last one it is ENDED, however it came there); others do nothing: STATE." */
  private static void behindTheLast() {
    LibraryDesk x = desk(18, 0, 0, 17, 1, 0);
    begin(x, "load 3", "end", "end;load 5", "get 0", "sleep 4", "take 1", "jump 1", "zero 5");
    steps(x, 0, 4);
    steps(x, 1, 4);
    steps(x, 2, 4);
    steps(x, 3, 4);
    steps(x, 4, 3);
    steps(x, 5, 2);
    steps(x, 6, 4);
    steps(x, 7, 4);
    Check.due(() -> x.tick(4), 1);
    Check.due(() -> x.interrupt(5), 1);
    for (int t = 0; t < 8; t++) {
      int k = t;
      Check.still(x, () -> x.step(k), 4);
      Check.still(x, () -> x.interrupt(k), 0);
      Check.due(() -> x.look(k, 2), -1);
    }
    Check.due(() -> x.look(0, 1), 3);
    Check.due(() -> x.look(5, 1), -2);
    LibraryDesk y = desk();
    begin(y, "sleep 9", "unlock 0", "end");
    steps(y, 0, 3);
    Check.still(y, () -> y.step(0), 3);
    steps(y, 1, 5);
    Check.still(y, () -> y.step(1), 5);
    Check.still(y, () -> y.interrupt(1), 0);
  }

  /** "jump k ..: the next is INSTRUCTION k (0 .. 59; behind the last: ENDED)". */
  private static void jumps() {
    LibraryDesk x = desk();
    begin(x, "jump 2;load 9;load 5;jump 0");
    steps(x, 0, 1);
    looks(x, 0, 1, 0, 2);
    steps(x, 0, 1, 1);
    looks(x, 0, 1, 5, 0);
    for (String p : new String[] {"jump 1", "jump 59", "zero 1", "zero 59"}) {
      int t = begin(x, p);
      steps(x, t, 4);
      looks(x, t, 4, 0, -1);
    }
    int t = begin(x, "load -1;less 2");
    steps(x, t, 1, 4);
    int u = begin(x, "load -1;less 59");
    steps(x, u, 1, 4);
    int v = begin(x, "jump 0");
    steps(x, v, 1, 1);
    looks(x, v, 1, 0, 0);
  }

  /** "always, if A is 0, below 0". */
  private static void signsOfA() {
    int[][] all = {{-1, 1, 3}, {0, 3, 1}, {1, 1, 1}};
    for (int[] a : all) {
      LibraryDesk x = desk();
      begin(x, "load " + a[0] + ";zero 4;end;end;end", "load " + a[0] + ";less 4;end;end;end");
      steps(x, 0, 1, 1);
      steps(x, 1, 1, 1);
      looks(x, 0, 1, a[0], a[1] + 1);
      looks(x, 1, 1, a[0], a[2] + 1);
    }
  }

  /** A and VALUES are ints: they wrap. */
  private static void intsWrap() {
    LibraryDesk x = desk(18, HIGH, 0, 18, LOW, 0);
    begin(x, "get 0;add 1;get 1;add -1;inc 0 1;inc 1 -1;get 0");
    steps(x, 0, 1, 1);
    looks(x, 0, 1, LOW);
    steps(x, 0, 1, 1);
    looks(x, 0, 1, HIGH);
    steps(x, 0, 1);
    looks(x, 0, 1, LOW);
    steps(x, 0, 1);
    looks(x, 0, 1, HIGH);
    Check.due(() -> x.sync(0, 0), LOW);
    Check.due(() -> x.sync(1, 0), HIGH);
  }

  /** "run(s, n 0 .. 4000): n times". */
  private static void runsUpTo() {
    LibraryDesk x = desk(18, 0, 0);
    begin(x, "inc 0 1;jump 0");
    for (int n : new int[] {-1, 4001, LOW, HIGH}) {
      Check.illegal(x, () -> x.run(1, n));
    }
    Check.still(x, () -> x.run(1, 0), 0);
    Check.due(() -> x.run(1, 1), 1);
    Check.due(() -> x.sync(0, 0), 1);
    Check.due(() -> x.run(1, 4000), 4000);
    Check.due(() -> x.sync(0, 0), 2001);
  }

  /** "as long as one is READY". */
  private static void runsAsLongAsReady() {
    LibraryDesk x = desk(17, 1, 0);
    Check.still(x, () -> x.run(5, 4000), 0);
    begin(x, "load 1;load 2", "take 0", "sleep 5", "unlock 9");
    Check.due(() -> x.run(5, 4000), 5);
    looks(x, 0, 4);
    looks(x, 1, 2);
    looks(x, 2, 3);
    looks(x, 3, 5);
    Check.still(x, () -> x.run(5, 4000), 0);
    x.tick(5);
    Check.still(x, () -> x.run(5, 4000), 0);
    begin(x, "put 0");
    Check.due(() -> x.run(5, 1), 1);
    looks(x, 1, 4);
  }

  /** "one DRAWN of the READY ones, by number, by SEED s"; the next SEED is drawn for each. */
  private static void drawnBySeed() {
    for (int seed : new int[] {0, 1, -1, LOW, HIGH, 987654321}) {
      LibraryDesk x = desk(18, 0, 0, 18, 0, 0, 18, 0, 0);
      begin(x, "inc 0 1;jump 0", "sleep 9", "inc 1 1;jump 0", "inc 2 1;jump 0");
      steps(x, 1, 3);
      int[] at = new int[3];
      int[] value = new int[3];
      long s = seed;
      for (int i = 0; i < 40; i++) {
        s = (int) (s * 1103515245L + 12345L);
        int k = (int) (((s & 0xFFFFFFFFL) >> 8) % 3);
        value[k] += at[k] == 0 ? 1 : 0;
        at[k] = 1 - at[k];
      }
      Check.due(() -> x.run(seed, 40), 40);
      for (int i = 0; i < 3; i++) {
        int o = i;
        Check.due("SEED " + seed, () -> x.sync(o, 0), value[o]);
      }
    }
  }

  /** "tick(n 0 or more): .. SLEEPING ones whose time is not after the CLOCK then are READY behind their INSTRUCTION (ENDED behind the last one): how many". */
  private static void ticks() {
    LibraryDesk x = desk();
    for (int n : new int[] {-1, LOW}) {
      Check.illegal(x, () -> x.tick(n));
    }
    Check.still(x, () -> x.tick(0), 0);
    begin(x, "sleep 1;load 1", "sleep 2;load 1", "sleep 2", "sleep 3;load 1");
    for (int t = 0; t < 4; t++) {
      steps(x, t, 3);
    }
    Check.still(x, () -> x.tick(0), 0);
    Check.due(() -> x.tick(1), 1);
    looks(x, 0, 1, 0, 1);
    looks(x, 1, 3, 0, 0, -1);
    Check.due(() -> x.tick(1), 2);
    looks(x, 1, 1, 0, 1);
    looks(x, 2, 4, 0, -1);
    looks(x, 3, 3, 0, 0);
    Check.due(() -> x.tick(HIGH), 1);
    looks(x, 3, 1, 0, 1);
    Check.due(() -> x.tick(HIGH), 0);
  }

  /** "sleep n: SLEEPING up to n after now (n below 1: nothing)". */
  private static void sleeps() {
    LibraryDesk x = desk();
    x.tick(100);
    begin(x, "sleep 0;sleep -1;sleep -999999999;sleep 1;sleep 999999999");
    steps(x, 0, 1, 1, 1, 3);
    looks(x, 0, 3, 0, 3, -1, 0, 0);
    Check.due(() -> x.tick(1), 1);
    steps(x, 0, 3);
    Check.due(() -> x.tick(999999998), 0);
    Check.due(() -> x.tick(1), 1);
    looks(x, 0, 4, 0, -1);
  }

  /** "the CLOCK (long, 0 first)". */
  private static void clockIsLong() {
    LibraryDesk x = desk();
    Check.due(() -> x.count(5), 0);
    Check.due(() -> x.tick(HIGH), 0);
    Check.due(() -> x.tick(HIGH), 0);
    Check.due(() -> x.count(5), 2L * HIGH);
    begin(x, "sleep 5;load 1");
    steps(x, 0, 3);
    Check.due(() -> x.tick(4), 0);
    Check.due(() -> x.tick(1), 1);
    Check.due(() -> x.count(5), 2L * HIGH + 5);
  }

  /** interrupt: "READY: its next INSTRUCTION that would wait (also sleep above 0 ..) does not, A is -2, and that is over: 1; of others 0". */
  private static void interruptedOrNot() {
    String[] wait = {"sleep 1", "acquire 0 1", "await 1", "meet 2", "put 3", "take 4", "join 5"};
    for (String w : wait) {
      LibraryDesk x = desk(14, 0, 0, 15, 1, 0, 16, 2, 0, 17, 1, 0, 17, 1, 0, 19, 0, 0);
      begin(x, "load 8;put 3");
      steps(x, 0, 1, 4);
      begin(x, "load 7;sleep 0;add 0;" + w + ";" + w);
      Check.due(() -> x.interrupt(0), 1);
      Check.still(x, () -> x.interrupt(0), 1);
      steps(x, 0, 1, 1, 1);
      looks(x, 0, 1, 7, 3, -1, 1, 0);
      steps(x, 0, 1);
      looks(x, 0, 1, -2, 4, -1, 0, 0);
      for (int o = 0; o < 6; o++) {
        int k = o;
        Check.due(() -> x.sync(k, 1), 0);
      }
      Check.due(() -> x.sync(1, 0), 1);
      Check.due(() -> x.sync(3, 0), 1);
      steps(x, 0, w.startsWith("sleep") ? 3 : 2);
      Check.due(() -> x.interrupt(0), 1);
      looks(x, 0, 4, -2, -1, -1, 0, 0);
      Check.still(x, () -> x.interrupt(0), 0);
    }
  }

  /** An interrupt stays as long as nothing would wait; lock does wait, and wait in the first row, too. */
  private static void interruptsThatStay() {
    LibraryDesk x = desk(14, 1, 0, 15, 0, 0, 16, 1, 0, 17, 1, 0, 19, 0, 0, 13, 0, 0);
    begin(x, "acquire 0 1;await 1;meet 2;load 4;put 3;take 3;give 4;join 4;lock 5;unlock 5;offer 3;poll 3;poll 3;sleep 0;sleep 1;sleep 1");
    Check.due(() -> x.interrupt(0), 1);
    for (int i = 0; i < 14; i++) {
      steps(x, 0, 1);
      Check.due("interrupted behind " + i, () -> x.look(0, 4), 1);
    }
    looks(x, 0, 1, -1, 14);
    steps(x, 0, 1);
    looks(x, 0, 1, -2, 15, -1, 0);
    steps(x, 0, 3);
    LibraryDesk y = desk(13, 0, 0, 17, 1, 0);
    begin(y, "lock 0;unlock 0", "lock 0;take 1");
    steps(y, 0, 1);
    Check.due(() -> y.interrupt(1), 1);
    steps(y, 1, 2);
    looks(y, 1, 2, 0, 0, 0, 1);
    steps(y, 0, 4);
    steps(y, 1, 1, 4);
    looks(y, 1, 4, -2, -1, -1, 0);
  }

  /** "of wait: it comes to the LOCK's first row as if signalled, or stays there, and goes on with -2". */
  private static void interruptedWaits() {
    LibraryDesk x = desk(13, 0, 1);
    begin(x, "lock 0;lock 0;load 5;wait 0;load 9", "lock 0;unlock 0", "lock 0;wait 0;load 9");
    steps(x, 0, 1, 1, 1, 2);
    steps(x, 1, 1);
    Check.due(() -> x.interrupt(0), 1);
    looks(x, 0, 2, 5, 3, 0, 0);
    Check.due(() -> x.sync(0, 1), 1);
    Check.due(() -> x.sync(0, 3), 0);
    Check.still(x, () -> x.interrupt(0), 1);
    steps(x, 1, 4);
    looks(x, 0, 1, -2, 4, -1, 0);
    Check.due(() -> x.sync(0, 0), 2);
    begin(x, "lock 0");
    LibraryDesk y = desk(13, 0, 1);
    begin(y, "lock 0;wait 0;load 9", "lock 0;signal 0;unlock 0");
    steps(y, 0, 1, 2);
    steps(y, 1, 1, 1);
    Check.due(() -> y.sync(0, 1), 1);
    Check.due(() -> y.interrupt(0), 1);
    Check.due(() -> y.sync(0, 1), 1);
    looks(y, 0, 2, 0, 1, 0, 0);
    steps(y, 1, 4);
    looks(y, 0, 1, -2, 2, -1, 0);
    LibraryDesk z = desk(13, 0, 0, 17, 1, 0);
    begin(z, "lock 0;wait 0;take 1", "lock 0;signal 0;unlock 0");
    steps(z, 0, 1, 2);
    steps(z, 1, 1, 1, 4);
    looks(z, 0, 1, 0, 1, -1, 0);
    Check.due(() -> z.interrupt(0), 1);
    steps(z, 0, 1);
    looks(z, 0, 1, 1, 2, -1, 1);
    steps(z, 0, 4);
    looks(z, 0, 4, -2, -1, -1, 0);
  }

  /** look: "2 the INSTRUCTION where it stands (from 0; -1 of none and ENDED ones), 3 the OBJECT that it waits for (-1), .. 5 why FAILED (0)". */
  private static void looks() {
    LibraryDesk x = desk(0, 0, 0, 17, 1, 0);
    begin(x, "load 5;take 1", "load 6;unlock 1", "end", "sleep 9", "load 7;load 8");
    looks(x, 0, 1, 0, 0, -1, 0, 0);
    steps(x, 0, 1, 2);
    looks(x, 0, 2, 5, 1, 1, 0, 0);
    steps(x, 1, 1, 5);
    looks(x, 1, 5, 6, 1, -1, 0, 2);
    steps(x, 2, 4);
    looks(x, 2, 4, 0, -1, -1, 0, 0);
    steps(x, 3, 3);
    looks(x, 3, 3, 0, 0, -1, 0, 0);
    steps(x, 4, 1);
    looks(x, 4, 1, 7, 1, -1, 0, 0);
    looks(x, 5, 0, 0, -1, -1, 0, 0);
  }

  /** "OBJECTS that are not there, or of another KIND: FAILED 2", of each word; of its KIND it is not. */
  private static void objectsOfAnotherKind() {
    String[][] all = {{"lock #", "13"}, {"try #", "13"}, {"unlock #", "13"}, {"wait #", "13"}, {"signal #", "13"}, {"all #", "13"}, {"acquire # 1", "14"}, {"release # 1", "14"}, {"drain #", "14"},
        {"down #", "15"}, {"await #", "15"}, {"meet #", "16"}, {"put #", "17"}, {"take #", "17"}, {"offer #", "17"}, {"poll #", "17"}, {"get #", "18"}, {"set #", "18"}, {"inc # 1", "18"}, {"cas # 1 2", "18"},
        {"give #", "19"}, {"join #", "19"}};
    for (String[] a : all) {
      for (int o = 0; o < 24; o++) {
        LibraryDesk x = Check.furnished();
        begin(x, a[0].replace("#", "" + o));
        x.interrupt(0);
        x.step(0);
        boolean right = a[1].equals("" + o);
        Check.due(a[0] + " of " + o, () -> x.look(0, 5) == 2 ? 1 : 0, right ? 0 : 1);
        Check.due(() -> x.look(0, 0) == 5 ? 1 : 0, !right || a[1].equals("13") && !a[0].startsWith("lock") && !a[0].startsWith("try") ? 1 : 0);
        if (!right) {
          looks(x, 0, 5, 0, 0, -1, 1, 2);
        }
      }
    }
  }

  /** lock, try: "the LOCK is free, or its own: its COUNT is 1 more"; unlock: "COUNT 1 less; 0: free". */
  private static void locksOfTheirOwn() {
    LibraryDesk x = desk(13, 0, 0);
    begin(x, "lock 0;lock 0;try 0;unlock 0;unlock 0;unlock 0;unlock 0", "try 0;add 5;try 0");
    Check.due(() -> x.sync(0, 2), -1);
    for (int count = 1; count <= 3; count++) {
      int n = count;
      steps(x, 0, 1);
      Check.due(() -> x.sync(0, 0), n);
      Check.due(() -> x.sync(0, 2), 0);
    }
    looks(x, 0, 1, 1, 3);
    steps(x, 1, 1);
    looks(x, 1, 1, 0, 1);
    Check.due(() -> x.sync(0, 1), 0);
    for (int count = 2; count >= 0; count--) {
      int n = count;
      steps(x, 0, 1);
      Check.due(() -> x.sync(0, 0), n);
      Check.due(() -> x.sync(0, 2), n == 0 ? -1 : 0);
    }
    steps(x, 1, 1, 4);
    looks(x, 1, 4, 1, -1);
    Check.due(() -> x.sync(0, 2), 1);
    steps(x, 0, 5);
    looks(x, 0, 5, 1, 6, -1, 0, 1);
  }

  /** unlock, wait, signal, all: "not its own: FAILED 1", of a free one, too. */
  private static void notItsOwn() {
    for (String w : new String[] {"unlock", "wait", "signal", "all"}) {
      LibraryDesk x = desk(13, 0, 1, 13, 0, 0);
      begin(x, w + " 0", "lock 1;load 1;load 1", w + " 1");
      steps(x, 0, 5);
      looks(x, 0, 5, 0, 0, -1, 0, 1);
      steps(x, 1, 1);
      x.interrupt(2);
      steps(x, 2, 5);
      looks(x, 2, 5, 0, 0, -1, 1, 1);
      Check.due(() -> x.sync(1, 0), 1);
      Check.due(() -> x.sync(1, 2), 1);
      Check.due(() -> x.sync(1, 1) + x.sync(1, 3), 0);
    }
  }

  /** "FAIR: the first one has it .. and is READY; else the first one is READY (in its row still), and has it when it steps if it is free then, else it waits on in its place". */
  private static void fairOrNot() {
    LibraryDesk x = desk(13, 0, 1);
    begin(x, "lock 0;unlock 0;lock 0", "lock 0;unlock 0", "lock 0;unlock 0", "try 0;load 3");
    steps(x, 0, 1);
    steps(x, 2, 2);
    steps(x, 1, 2);
    steps(x, 0, 1);
    Check.due(() -> x.sync(0, 2), 2);
    looks(x, 2, 1, 0, 1, -1);
    looks(x, 1, 2, 0, 0, 0);
    steps(x, 0, 2);
    steps(x, 3, 1);
    looks(x, 3, 1, 0, 1);
    steps(x, 2, 4);
    Check.due(() -> x.sync(0, 2), 1);
    steps(x, 1, 4);
    Check.due(() -> x.sync(0, 2), 0);
    looks(x, 0, 4);
    LibraryDesk y = desk(13, 0, 0);
    begin(y, "lock 0;unlock 0;lock 0;unlock 0", "lock 0;load 5", "lock 0;load 6");
    steps(y, 0, 1);
    steps(y, 1, 2);
    steps(y, 2, 2);
    steps(y, 0, 1);
    looks(y, 1, 1, 0, 0, -1);
    looks(y, 2, 2, 0, 0, 0);
    Check.due(() -> y.sync(0, 1), 2);
    Check.due(() -> y.sync(0, 2), -1);
    steps(y, 0, 1);
    steps(y, 1, 2);
    looks(y, 1, 2, 0, 0, 0);
    Check.due(() -> y.sync(0, 1), 2);
    steps(y, 0, 4);
    looks(y, 1, 1, 0, 0, -1);
    looks(y, 2, 2, 0, 0, 0);
    steps(y, 1, 1);
    looks(y, 1, 1, 0, 1, -1);
    Check.due(() -> y.sync(0, 2), 1);
    Check.due(() -> y.sync(0, 1), 1);
  }

  /** "A LOCK of one that ENDED or FAILED stays its own, by its number (also of the next one with that)." */
  private static void locksThatStay() {
    LibraryDesk x = desk(13, 0, 0);
    begin(x, "lock 0;lock 0", "lock 0");
    steps(x, 0, 1, 4);
    Check.due(() -> x.sync(0, 2), 0);
    Check.due(() -> x.sync(0, 0), 2);
    steps(x, 1, 2);
    begin(x, "unlock 0;unlock 9");
    steps(x, 0, 1);
    Check.due(() -> x.sync(0, 0), 1);
    steps(x, 0, 5);
    Check.due(() -> x.sync(0, 2), 0);
    begin(x, "lock 0;unlock 0;unlock 0");
    steps(x, 0, 1);
    Check.due(() -> x.sync(0, 0), 2);
    steps(x, 0, 1, 4);
    Check.due(() -> x.sync(0, 2), -1);
    steps(x, 1, 4);
    Check.due(() -> x.sync(0, 2), 1);
  }

  /** "signal o, all o: the first, all of the second row come to the end of the first (with the COUNT kept; A is 1 when they have it)"; none is no fault. */
  private static void conditions() {
    LibraryDesk x = desk(13, 0, 1);
    begin(x, "lock 0;signal 0;all 0;wait 0;load 7", "lock 0;lock 0;wait 0", "lock 0;signal 0;unlock 0;lock 0;all 0;unlock 0", "lock 0;unlock 0");
    steps(x, 0, 1, 1, 1);
    looks(x, 0, 1, 0, 3);
    steps(x, 0, 2);
    looks(x, 0, 2, 0, 3, 0);
    Check.due(() -> x.sync(0, 2), -1);
    Check.due(() -> x.sync(0, 0), 0);
    steps(x, 1, 1, 1, 2);
    Check.due(() -> x.sync(0, 3), 2);
    steps(x, 2, 1);
    steps(x, 3, 2);
    steps(x, 2, 1);
    Check.due(() -> x.sync(0, 1), 2);
    Check.due(() -> x.sync(0, 3), 1);
    steps(x, 2, 1);
    Check.due(() -> x.sync(0, 2), 3);
    steps(x, 3, 4);
    Check.due(() -> x.sync(0, 2), 0);
    Check.due(() -> x.sync(0, 0), 1);
    looks(x, 0, 1, 1, 4, -1);
    begin(x, "unlock 0");
    Check.due(() -> x.look(3, 0), 1);
    steps(x, 0, 4);
    steps(x, 2, 2);
    steps(x, 3, 5);
    begin(x, "unlock 0");
    steps(x, 0, 4);
    Check.due(() -> x.sync(0, 2), 2);
    steps(x, 2, 1);
    Check.due(() -> x.sync(0, 3), 0);
    steps(x, 2, 4);
    Check.due(() -> x.sync(0, 2), 1);
    Check.due(() -> x.sync(0, 0), 2);
    looks(x, 1, 4, 1);
  }

  /** "Who comes to the first row of a free LOCK where none waits is treated so at once." */
  private static void comesBackToAFreeLock() {
    for (int fair = 0; fair < 2; fair++) {
      LibraryDesk x = desk(13, 0, fair);
      begin(x, "lock 0;lock 0;wait 0;load 9", "lock 0;wait 0;load 9");
      steps(x, 0, 1, 1, 2);
      steps(x, 1, 1, 2);
      Check.due(() -> x.interrupt(0), 1);
      if (fair == 1) {
        looks(x, 0, 1, -2, 3, -1);
        Check.due(() -> x.sync(0, 2), 0);
        Check.due(() -> x.sync(0, 0), 2);
        Check.due(() -> x.sync(0, 1), 0);
        Check.due(() -> x.interrupt(1), 1);
        looks(x, 1, 2, 0, 1, 0);
        continue;
      }
      looks(x, 0, 1, 0, 2, -1);
      Check.due(() -> x.sync(0, 2), -1);
      Check.due(() -> x.sync(0, 1), 1);
      Check.due(() -> x.interrupt(1), 1);
      looks(x, 1, 2, 0, 1, 0);
      Check.due(() -> x.sync(0, 1), 2);
      steps(x, 0, 1);
      looks(x, 0, 1, -2, 3, -1);
      Check.due(() -> x.sync(0, 0), 2);
      Check.due(() -> x.sync(0, 1), 1);
    }
  }

  /** "acquire o n (1 or more): PERMITS n or more and none waits: n less; else it waits"; "drain o: A is PERMITS, if above 0, these 0 then; else 0". */
  private static void permits() {
    LibraryDesk x = desk(14, 3, 0);
    begin(x, "acquire 0 3;release 0 2;acquire 0 3", "drain 0;drain 0");
    steps(x, 0, 1);
    Check.due(() -> x.sync(0, 0), 0);
    steps(x, 0, 1, 2);
    Check.due(() -> x.sync(0, 0), 2);
    looks(x, 0, 2, 0, 2, 0);
    steps(x, 1, 1);
    looks(x, 1, 1, 2);
    Check.due(() -> x.sync(0, 0), 0);
    steps(x, 1, 4);
    looks(x, 1, 4, 0);
    LibraryDesk y = desk(14, -1, 0, 14, HIGH, 0, 14, LOW, 0);
    begin(y, "load 5;drain 0;release 0 1;acquire 0 1", "drain 1;release 1 1", "release 2 999999999;acquire 2 1");
    steps(y, 0, 1, 1);
    looks(y, 0, 1, 0);
    Check.due(() -> y.sync(0, 0), -1);
    steps(y, 0, 1);
    Check.due(() -> y.sync(0, 0), 0);
    steps(y, 0, 2);
    steps(y, 1, 1);
    looks(y, 1, 1, HIGH);
    steps(y, 1, 4);
    Check.due(() -> y.sync(1, 0), 1);
    steps(y, 2, 1, 2);
    Check.due(() -> y.sync(2, 0), LOW + 999999999);
    LibraryDesk z = desk(14, HIGH, 0);
    begin(z, "release 0 1");
    steps(z, 0, 4);
    Check.due(() -> z.sync(0, 0), LOW);
  }

  /** "release o n: n more; as long as the first that waits can have its n it has them". */
  private static void permitsInOrder() {
    LibraryDesk x = desk(14, 0, 0);
    begin(x, "acquire 0 2;load 1", "acquire 0 1;load 1", "acquire 0 3", "release 0 1;release 0 1;release 0 4", "acquire 0 1");
    steps(x, 0, 2);
    steps(x, 1, 2);
    steps(x, 2, 2);
    steps(x, 3, 1);
    Check.due(() -> x.sync(0, 0), 1);
    Check.due(() -> x.sync(0, 1), 3);
    steps(x, 4, 2);
    steps(x, 3, 1);
    looks(x, 0, 1, 0, 1);
    looks(x, 1, 2);
    Check.due(() -> x.sync(0, 0), 0);
    steps(x, 3, 4);
    looks(x, 1, 1);
    looks(x, 2, 4);
    looks(x, 4, 2);
    Check.due(() -> x.sync(0, 0), 0);
    Check.due(() -> x.sync(0, 1), 1);
    begin(x, "release 0 2");
    steps(x, 2, 4);
    looks(x, 4, 4);
    Check.due(() -> x.sync(0, 0), 1);
  }

  /** "down o: a LATCH above 0 is 1 less; at 0 all go on. await o: at 0 nothing; else it waits." */
  private static void latches() {
    LibraryDesk x = desk(15, 2, 0, 15, 0, 0);
    begin(x, "await 0;load 1", "down 0;down 0;down 0;await 0", "await 1;down 1", "await 0");
    steps(x, 0, 2);
    steps(x, 3, 2);
    steps(x, 1, 1);
    looks(x, 0, 2, 0, 0, 0);
    Check.due(() -> x.sync(0, 0), 1);
    steps(x, 1, 1);
    looks(x, 0, 1, 0, 1, -1);
    looks(x, 3, 4);
    Check.due(() -> x.sync(0, 0), 0);
    steps(x, 1, 1);
    Check.due(() -> x.sync(0, 0), 0);
    steps(x, 1, 4);
    steps(x, 2, 1, 4);
    Check.due(() -> x.sync(1, 0), 0);
  }

  /** "meet o: A is how many are still missing; none: all that wait go on; else it waits"; a 1 .. 8. */
  private static void barriers() {
    LibraryDesk x = desk(16, 1, 0, 16, 8, 0);
    begin(x, "load 5;meet 0;meet 1");
    steps(x, 0, 1, 1);
    looks(x, 0, 1, 0, 2);
    for (int t = 1; t < 8; t++) {
      begin(x, "meet 1;load 9");
    }
    for (int t = 0; t < 7; t++) {
      steps(x, t, 2);
      looks(x, t, 2, 7 - t);
      int n = t + 1;
      Check.due(() -> x.sync(1, 0), n);
      Check.due(() -> x.sync(1, 1), n);
    }
    steps(x, 7, 1);
    looks(x, 7, 1, 0, 1);
    looks(x, 0, 4, 7, -1);
    for (int t = 1; t < 7; t++) {
      looks(x, t, 1, 7 - t, 1, -1);
    }
    Check.due(() -> x.sync(1, 0), 0);
    LibraryDesk y = desk(16, 2, 0);
    begin(y, "meet 0", "meet 0;meet 0", "load 3;meet 0");
    steps(y, 0, 2);
    Check.due(() -> y.interrupt(0), 1);
    looks(y, 0, 4, -2);
    steps(y, 1, 2);
    looks(y, 1, 2, 1);
    steps(y, 2, 1, 4);
    steps(y, 1, 2);
    looks(y, 1, 2, 1, 1, 0);
  }

  /** "put o: A comes to the end of the QUEUE, if it has room ..; else it waits. take o: A is the first one .., none: it waits"; CAPACITY 1 .. 100. */
  private static void queueRoom() {
    for (int cap : new int[] {1, 2, 100}) {
      LibraryDesk x = desk(17, cap, 0);
      Check.due(() -> x.sync(0, 4), cap);
      begin(x, "put 0;add 1;jump 0", "take 0;jump 0");
      for (int i = 0; i < cap; i++) {
        steps(x, 0, 1, 1, 1);
        int n = i + 1;
        Check.due(() -> x.sync(0, 0), n);
      }
      steps(x, 0, 2);
      Check.due(() -> x.sync(0, 0), cap);
      steps(x, 1, 1);
      looks(x, 1, 1, 0, 1);
      looks(x, 0, 1, cap, 1);
      Check.due(() -> x.sync(0, 0), cap);
      for (int i = 1; i <= cap; i++) {
        steps(x, 1, 1, 1);
        looks(x, 1, 1, i, 1);
      }
      Check.due(() -> x.sync(0, 0), 0);
      steps(x, 1, 1, 2);
      looks(x, 1, 2, cap, 0, 0);
    }
  }

  /** "(with one that waits to take: to that at once)"; "(then the first that waits to put puts its A)"; in the order in which they came. */
  private static void queueRows() {
    LibraryDesk x = desk(17, 1, 0);
    begin(x, "take 0;load 1", "take 0", "load 5;put 0;load 6;put 0;load 7;put 0", "load 8;put 0", "take 0;take 0;take 0");
    steps(x, 1, 2);
    steps(x, 0, 2);
    steps(x, 2, 1, 1);
    looks(x, 1, 4, 5);
    looks(x, 0, 2, 0, 0, 0);
    Check.due(() -> x.sync(0, 0), 0);
    Check.due(() -> x.sync(0, 1), 1);
    steps(x, 2, 1, 1);
    looks(x, 0, 1, 6, 1);
    steps(x, 3, 1, 4);
    Check.due(() -> x.sync(0, 0), 1);
    steps(x, 2, 1, 2);
    begin(x, "load 9;put 0");
    steps(x, 1, 1, 2);
    Check.due(() -> x.sync(0, 1), 2);
    steps(x, 4, 1);
    looks(x, 4, 1, 8);
    looks(x, 2, 4, 7);
    looks(x, 1, 2, 9);
    steps(x, 4, 1);
    looks(x, 4, 1, 7);
    looks(x, 1, 4, 9);
    steps(x, 4, 4);
    looks(x, 4, 4, 9);
    Check.due(() -> x.sync(0, 0), 0);
  }

  /** "offer o, poll o: as put, take, if they need not wait, and A is 1 (offer); else A is 0, -1 (poll)". */
  private static void offersAndPolls() {
    LibraryDesk x = desk(17, 1, 0);
    begin(x, "load 7;poll 0;load 5;offer 0;load 6;offer 0;poll 0;poll 0", "take 0", "load 3;put 0");
    steps(x, 0, 1, 1);
    looks(x, 0, 1, -1, 2);
    steps(x, 0, 1, 1);
    looks(x, 0, 1, 1, 4);
    Check.due(() -> x.sync(0, 0), 1);
    steps(x, 0, 1, 1);
    looks(x, 0, 1, 0, 6);
    Check.due(() -> x.sync(0, 0), 1);
    steps(x, 2, 1, 2);
    steps(x, 0, 1);
    looks(x, 0, 1, 5, 7);
    looks(x, 2, 4, 3);
    Check.due(() -> x.sync(0, 0), 1);
    steps(x, 0, 4);
    looks(x, 0, 4, 3);
    steps(x, 1, 2);
    begin(x, "load 4;offer 0;load 4");
    steps(x, 0, 1, 1);
    looks(x, 0, 1, 1, 2);
    looks(x, 1, 4, 4);
    Check.due(() -> x.sync(0, 0), 0);
  }

  /** "cas o x y: if it is x it is y and A 1, else A 0"; "get o, set o, inc o n". */
  private static void cells() {
    LibraryDesk x = desk(18, -4, 0, 18, LOW, 0, 18, HIGH, 0);
    Check.due(() -> x.sync(1, 0), LOW);
    Check.due(() -> x.sync(2, 0), HIGH);
    begin(x, "cas 0 -4 -4;cas 0 -4 8;cas 0 -4 9;get 0;inc 0 -8;zero 7;end;load 6;set 0;get 2;set 1;get 1");
    steps(x, 0, 1);
    looks(x, 0, 1, 1);
    Check.due(() -> x.sync(0, 0), -4);
    steps(x, 0, 1);
    looks(x, 0, 1, 1);
    Check.due(() -> x.sync(0, 0), 8);
    steps(x, 0, 1);
    looks(x, 0, 1, 0);
    Check.due(() -> x.sync(0, 0), 8);
    steps(x, 0, 1);
    looks(x, 0, 1, 8);
    steps(x, 0, 1, 1);
    looks(x, 0, 1, 0, 7);
    steps(x, 0, 1, 1);
    Check.due(() -> x.sync(0, 0), 6);
    steps(x, 0, 1, 1, 4);
    looks(x, 0, 4, HIGH);
    Check.due(() -> x.sync(1, 0), HIGH);
  }

  /** "give o: a FUTURE without VALUE has A, all that wait go on with it, A is 1; else A is 0. join o: A is its VALUE; none: it waits." */
  private static void futures() {
    LibraryDesk x = desk(19, 7, 7);
    begin(x, "join 0;load 1", "join 0", "give 0;give 0;join 0", "load 9;give 0;join 0");
    Check.due(() -> x.sync(0, 0), Check.NONE);
    steps(x, 0, 2);
    steps(x, 1, 2);
    Check.due(() -> x.sync(0, 1), 2);
    steps(x, 2, 1);
    looks(x, 2, 1, 1, 1);
    Check.due(() -> x.sync(0, 0), 0);
    Check.due(() -> x.sync(0, 1), 0);
    looks(x, 0, 1, 0, 1, -1);
    looks(x, 1, 4, 0, -1, -1);
    steps(x, 2, 1);
    looks(x, 2, 1, 0, 2);
    steps(x, 3, 1, 1);
    looks(x, 3, 1, 0, 2);
    steps(x, 3, 4);
    looks(x, 3, 4, 0);
    Check.due(() -> x.sync(0, 0), 0);
  }

  /** drop: "IllegalStateException: a THREAD is in a row of it", of each KIND that has one, and of each row of a LOCK. */
  private static void droppedWithARow() {
    String[][] all = {{"14", "acquire 0 9"}, {"15", "await 0"}, {"16", "meet 0"}, {"17", "take 0"}, {"17", "put 0;put 0;put 0"}, {"19", "join 0"}, {"13", "lock 0;wait 0"}};
    for (String[] a : all) {
      LibraryDesk x = desk(Integer.parseInt(a[0]), 2, 1, 18, 0, 0);
      begin(x, "load 1;" + a[1] + ";load 2");
      while (x.look(0, 0) == 1) {
        x.step(0);
      }
      Check.due(() -> x.look(0, 0), 2);
      Check.state(x, () -> x.drop(0));
      Check.due(() -> x.drop(1), 1);
      Check.due(() -> x.interrupt(0), 1);
      Check.due("drop of " + a[0], () -> x.drop(0), 1);
      Check.none(x, () -> x.drop(0));
    }
    LibraryDesk x = desk(13, 0, 0);
    begin(x, "lock 0;unlock 0", "lock 0;load 1");
    steps(x, 0, 1);
    steps(x, 1, 2);
    Check.state(x, () -> x.drop(0));
    steps(x, 0, 4);
    looks(x, 1, 1);
    Check.state(x, () -> x.drop(0));
    Check.due(() -> x.interrupt(1), 1);
    Check.state(x, () -> x.drop(0));
    steps(x, 1, 1);
    Check.due(() -> x.drop(0), 1);
    steps(x, 1, 4);
  }

  /** dead: "the least THREAD of those in a ring, each WAITING in a first row for a LOCK of the next, -1 without". */
  private static void rings() {
    LibraryDesk x = desk(13, 0, 0, 13, 0, 0, 13, 0, 0, 13, 0, 0, 13, 0, 0, 13, 0, 0, 13, 0, 0, 13, 0, 0);
    for (int t = 0; t < 8; t++) {
      begin(x, "lock " + t + ";lock " + (t + 1) % 8);
      steps(x, t, 1);
    }
    for (int t = 0; t < 8; t++) {
      Check.due(() -> x.dead(), -1);
      steps(x, t, 2);
    }
    Check.due(() -> x.dead(), 0);
    x.interrupt(5);
    Check.due(() -> x.dead(), -1);
    LibraryDesk y = desk(13, 0, 0, 13, 0, 0, 13, 0, 0);
    begin(y, "lock 1", "lock 2;lock 1", "lock 1;lock 2", "lock 0;wait 0");
    steps(y, 3, 1);
    steps(y, 2, 1);
    steps(y, 1, 1);
    steps(y, 0, 2);
    steps(y, 1, 2);
    Check.due(() -> y.dead(), -1);
    steps(y, 2, 2);
    Check.due(() -> y.dead(), 1);
    steps(y, 3, 2);
    Check.due(() -> y.dead(), 1);
    LibraryDesk z = desk(13, 0, 0, 13, 0, 0);
    begin(z, "lock 0;lock 1;wait 1", "lock 1;lock 0");
    steps(z, 0, 1, 1, 2);
    steps(z, 1, 1, 2);
    Check.due(() -> z.dead(), -1);
    z.interrupt(0);
    Check.due(() -> z.dead(), 0);
    z.interrupt(1);
    Check.due(() -> z.dead(), -1);
    LibraryDesk w = desk(13, 0, 0, 13, 0, 0);
    begin(w, "lock 0;lock 1", "lock 1;lock 0");
    steps(w, 0, 1);
    steps(w, 1, 1, 2);
    steps(w, 0, 2);
    Check.due(() -> w.dead(), 0);
  }

  /** dead: "each WAITING": one that is READY in its row still is in no ring, until it waits on. */
  private static void ringsOfWaitingOnes() {
    LibraryDesk x = desk(13, 0, 0, 13, 0, 0);
    begin(x, "lock 1;lock 0", "lock 0;unlock 0;lock 0;lock 1");
    steps(x, 1, 1);
    steps(x, 0, 1, 2);
    steps(x, 1, 1);
    looks(x, 0, 1, 0, 1, -1);
    steps(x, 1, 1, 2);
    Check.still(x, () -> x.dead(), -1);
    steps(x, 0, 2);
    Check.still(x, () -> x.dead(), 0);
    Check.due(() -> x.interrupt(1), 1);
    Check.still(x, () -> x.dead(), -1);
  }

  /** sync: "what 0 .. 4"; "(2 .. 4 of others: UnsupportedOperationException)". */
  private static void syncs() {
    LibraryDesk x = Check.furnished();
    for (int o = 13; o <= 19; o++) {
      int at = o;
      for (int what : new int[] {-1, 5, LOW, HIGH}) {
        Check.illegal(x, () -> x.sync(at, what));
      }
      for (int w = 2; w <= 4; w++) {
        int what = w;
        boolean may = o == 13 && w < 4 || o == 17 && w == 4;
        if (may) {
          Check.still(x, () -> x.sync(at, what), w == 2 ? -1 : w == 3 ? 0 : 2);
        } else {
          Check.unsupported(x, () -> x.sync(at, what));
        }
      }
      long[] values = {0, 2, 2, 0, 0, 2, Check.NONE};
      Check.still(x, () -> x.sync(at, 0), values[at - 13]);
      Check.still(x, () -> x.sync(at, 1), 0);
    }
    for (int o = 0; o < 13; o++) {
      int at = o;
      Check.cast(x, () -> x.sync(at, 9));
    }
    Check.none(x, () -> x.sync(23, 9));
  }

  /** "READY: its next INSTRUCTION that would wait .. does not, A is -2, and that is over": a wait keeps the LOCK then; not its own is ahead of it. */
  private static void interruptedBeforeWait() {
    for (int fair = 0; fair < 2; fair++) {
      LibraryDesk x = desk(13, 0, fair);
      begin(x, "lock 0;lock 0;load 5;wait 0;wait 0;unlock 0", "lock 0;unlock 0");
      steps(x, 0, 1, 1, 1);
      steps(x, 1, 2);
      Check.due(() -> x.interrupt(0), 1);
      steps(x, 0, 1);
      looks(x, 0, 1, -2, 4, -1, 0, 0);
      Check.due(() -> x.sync(0, 0), 2);
      Check.due(() -> x.sync(0, 2), 0);
      Check.due(() -> x.sync(0, 3), 0);
      looks(x, 1, 2);
      steps(x, 0, 2);
      looks(x, 0, 2, -2, 4, 0, 0, 0);
      Check.due(() -> x.sync(0, 3), 1);
      Check.due(() -> x.sync(0, 2), fair == 1 ? 1 : -1);
    }
    LibraryDesk y = desk(13, 0, 0);
    begin(y, "wait 0");
    Check.due(() -> y.interrupt(0), 1);
    steps(y, 0, 5);
    looks(y, 0, 5, 0, 0, -1, 1, 1);
  }

  /** "WAITING, SLEEPING: it leaves its row, A is -2, and it is READY behind its INSTRUCTION", whatever A was, in each row. */
  private static void interruptedSleeps() {
    String[] waits = {"sleep 1", "acquire 0 1", "await 1", "take 3", "join 4", "lock 5"};
    for (String w : waits) {
      LibraryDesk x = desk(14, 0, 0, 15, 1, 0, 16, 2, 0, 17, 1, 0, 19, 0, 0, 13, 0, 1);
      begin(x, "lock 5", "load 7;" + w + ";load 8", "load 6;" + w);
      steps(x, 0, 4);
      int waiting = w.startsWith("sleep") ? 3 : 2;
      steps(x, 1, 1, waiting);
      steps(x, 2, 1, waiting);
      looks(x, 1, waiting, 7, 1);
      Check.due(() -> x.interrupt(1), 1);
      looks(x, 1, 1, -2, 2, -1, 0, 0);
      looks(x, 2, waiting, 6, 1);
      Check.due(() -> x.interrupt(2), 1);
      looks(x, 2, 4, -2, -1, -1, 0, 0);
      steps(x, 1, 4);
      looks(x, 1, 4, 8);
      Check.due(() -> x.tick(9), 0);
    }
    LibraryDesk y = desk(17, 1, 0);
    begin(y, "load 7;put 0;load 8;put 0", "load 9;put 0", "take 0;take 0");
    steps(y, 0, 1, 1, 1, 2);
    steps(y, 1, 1, 2);
    Check.due(() -> y.interrupt(0), 1);
    looks(y, 0, 4, -2);
    steps(y, 2, 1);
    looks(y, 2, 1, 7);
    looks(y, 1, 4, 9);
    steps(y, 2, 4);
    looks(y, 2, 4, 9);
  }

  /** "it comes to the LOCK's first row as if signalled, or stays there": in its place, with the COUNT kept. */
  private static void staysInItsPlace() {
    LibraryDesk x = desk(13, 0, 1);
    begin(x, "lock 0;lock 0;wait 0;load 9", "lock 0;wait 0;load 9", "lock 0;all 0;unlock 0", "lock 0;unlock 0");
    steps(x, 0, 1, 1, 2);
    steps(x, 1, 1, 2);
    steps(x, 2, 1, 1);
    steps(x, 3, 2);
    Check.due(() -> x.sync(0, 1), 3);
    Check.due(() -> x.interrupt(0), 1);
    Check.due(() -> x.interrupt(1), 1);
    Check.due(() -> x.interrupt(0), 1);
    Check.due(() -> x.sync(0, 1), 3);
    steps(x, 2, 4);
    looks(x, 0, 1, -2, 3, -1, 0, 0);
    Check.due(() -> x.sync(0, 2), 0);
    Check.due(() -> x.sync(0, 0), 2);
    looks(x, 1, 2, 0, 1, 0);
    looks(x, 3, 2, 0, 0, 0);
    LibraryDesk y = desk(13, 0, 1);
    begin(y, "lock 0;wait 0;load 9", "lock 0;wait 0;load 9", "lock 0;unlock 0;load 1", "lock 0;unlock 0");
    steps(y, 0, 1, 2);
    steps(y, 1, 1, 2);
    steps(y, 2, 1);
    steps(y, 3, 2);
    Check.due(() -> y.interrupt(1), 1);
    Check.due(() -> y.interrupt(0), 1);
    Check.due(() -> y.sync(0, 3), 0);
    steps(y, 2, 1);
    Check.due(() -> y.sync(0, 2), 3);
    steps(y, 3, 4);
    Check.due(() -> y.sync(0, 2), 1);
    looks(y, 1, 1, -2, 2, -1);
    looks(y, 0, 2, 0, 1, 0);
  }

  /** What was kept for a wait is over with it: the next LOCK that the THREAD waits for has COUNT 1, A stays, and an interrupt takes it out of its row. */
  private static void lockedBehindAWait() {
    for (int fair = 0; fair < 2; fair++) {
      for (int way = 0; way < 2; way++) {
        LibraryDesk x = desk(13, 0, fair, 13, 0, fair);
        begin(x, "lock 0;lock 0;lock 0;wait 0;load 5;lock 1;load 6", "lock 1;lock 0;signal 0;unlock 0;unlock 1;unlock 9");
        steps(x, 0, 1, 1, 1, 2);
        steps(x, 1, 1, 1, 1, 1);
        if (fair == 0) {
          looks(x, 0, 1, 0, 3);
          steps(x, 0, 1);
        }
        looks(x, 0, 1, 1, 4);
        Check.due(() -> x.sync(0, 0), 3);
        steps(x, 0, 1, 2);
        looks(x, 0, 2, 5, 5, 1);
        if (way == 0) {
          Check.due(() -> x.interrupt(0), 1);
          looks(x, 0, 1, -2, 6, -1);
          Check.due(() -> x.sync(1, 1), 0);
          Check.due(() -> x.sync(1, 2), 1);
        } else {
          steps(x, 1, 1);
          if (fair == 0) {
            steps(x, 0, 1);
          }
          looks(x, 0, 1, 5, 6, -1);
          Check.due(() -> x.sync(1, 0), 1);
          Check.due(() -> x.sync(1, 2), 0);
          Check.due(() -> x.sync(1, 1), 0);
        }
        steps(x, 0, 4);
        Check.due(() -> x.sync(0, 0), 3);
      }
    }
    LibraryDesk y = desk(13, 0, 1);
    begin(y, "lock 0;lock 0;wait 0", "lock 0;signal 0;unlock 0");
    steps(y, 0, 1, 1, 2);
    steps(y, 1, 1, 1, 4);
    looks(y, 0, 4, 1);
    begin(y, "unlock 0;unlock 0;lock 0;unlock 0");
    steps(y, 0, 1, 1);
    begin(y, "lock 0;lock 0;unlock 0;unlock 0");
    steps(y, 1, 1, 1);
    steps(y, 0, 2);
    steps(y, 1, 1, 4);
    looks(y, 0, 1, 0, 3);
    Check.due(() -> y.sync(0, 0), 1);
  }

  /** A of those that wait stays as it was, but where the document tells another one. */
  private static void keepsA() {
    for (int fair = 0; fair < 2; fair++) {
      LibraryDesk x = desk(13, 0, fair);
      begin(x, "lock 0;unlock 0", "load 5;lock 0;load 6");
      steps(x, 0, 1);
      steps(x, 1, 1, 2);
      looks(x, 1, 2, 5, 1, 0);
      steps(x, 0, 4);
      if (fair == 0) {
        steps(x, 1, 1);
      }
      looks(x, 1, 1, 5, 2, -1);
    }
    LibraryDesk y = desk(14, 0, 0, 15, 1, 0, 17, 1, 0);
    begin(y, "load 5;acquire 0 1;load 1", "load 6;await 1;load 1", "load 7;put 2;put 2;load 1", "load 9;release 0 1;down 1;take 2");
    steps(y, 0, 1, 2);
    steps(y, 1, 1, 2);
    steps(y, 2, 1, 1, 2);
    looks(y, 0, 2, 5);
    looks(y, 1, 2, 6);
    looks(y, 2, 2, 7);
    steps(y, 3, 1, 1);
    looks(y, 3, 1, 9);
    looks(y, 0, 1, 5, 2);
    steps(y, 3, 1);
    looks(y, 3, 1, 9);
    looks(y, 1, 1, 6, 2);
    steps(y, 3, 4);
    looks(y, 3, 4, 7);
    looks(y, 2, 1, 7, 3);
  }

  /** "as long as the first that waits can have its n": the n of the INSTRUCTION where it stands, whichever that is. */
  private static void permitsOfEach() {
    LibraryDesk x = desk(14, 0, 0, 18, 0, 0);
    begin(x, "load 9;load 9;acquire 0 3;load 1", "inc 1 7;acquire 0 2;load 1", "release 0 2;release 0 1;release 0 1;release 0 1");
    steps(x, 0, 1, 1, 2);
    steps(x, 1, 1, 2);
    steps(x, 2, 1);
    Check.due(() -> x.sync(0, 0), 2);
    Check.due(() -> x.sync(0, 1), 2);
    steps(x, 2, 1);
    Check.due(() -> x.sync(0, 0), 0);
    looks(x, 0, 1, 9, 3, -1);
    looks(x, 1, 2, 7, 1, 0);
    steps(x, 2, 1);
    Check.due(() -> x.sync(0, 0), 1);
    looks(x, 1, 2);
    steps(x, 2, 4);
    Check.due(() -> x.sync(0, 0), 0);
    looks(x, 1, 1, 7, 2, -1);
  }

  /** "all that wait go on with it", "A is its VALUE": not with what they had. */
  private static void futuresGiveA() {
    LibraryDesk x = desk(19, 0, 0);
    begin(x, "load 3;join 0;load 1", "load 4;join 0;load 1", "load -8;give 0;load 2;give 0;join 0", "load 6;join 0;load 1");
    steps(x, 0, 1, 2);
    steps(x, 1, 1, 2);
    looks(x, 0, 2, 3, 1, 0);
    steps(x, 2, 1, 1);
    looks(x, 0, 1, -8, 2, -1);
    looks(x, 1, 1, -8, 2, -1);
    looks(x, 2, 1, 1, 2);
    Check.due(() -> x.sync(0, 0), -8);
    steps(x, 2, 1, 1);
    looks(x, 2, 1, 0, 4);
    Check.due(() -> x.sync(0, 0), -8);
    steps(x, 3, 1, 1);
    looks(x, 3, 1, -8, 2, -1);
    steps(x, 2, 4);
    looks(x, 2, 4, -8);
  }
}
