/** The edges that the document names of STREAMS (promise 15, count 3 and 4). */
public final class EdgeStreamTest {
  public static void main(String[] args) {
    words();
    numbers();
    numbersInRange();
    objectNumbers();
    twentyStages();
    whatIsMissing();
    blanksBetween();
    orderOfFaults();
    emptyOnes();
    emptyRanges();
    sourcesAtTheLimit();
    givenAtTheLimit();
    keptAtTheLimit();
    keysAtTheLimit();
    byNought();
    intsWrap();
    eachOfSomeElements();
    longSums();
    signs();
    limitsOfNone();
    askedNoMore();
    sortedOnlyWhenAsked();
    copiesOfOne();
    skips();
    whileAndUntil();
    distinctOnes();
    decided();
    calledOnce();
    oneBehindTheOther();
    listsMade();
    groupsMade();
    sourcesStay();
    Check.end("EdgeStreamTest");
  }

  private static LibraryDesk desk(String tape) {
    LibraryDesk x = Check.furnished();
    Check.tape(x, tape);
    return x;
  }

  private static void due(String tape, long answer, long called) {
    LibraryDesk x = desk(tape);
    Check.due(tape, () -> x.stream(), answer);
    Check.due("CALLED of " + tape, () -> x.count(4), called);
    Check.due(() -> x.count(0), 0);
    Check.due(() -> x.count(3), -1);
  }

  private static void fails(String tape) {
    LibraryDesk x = desk("range 0 7 | map + 1 | count");
    Check.due(() -> x.stream(), 7);
    Check.tape(x, tape);
    Check.arithmetic(x, () -> x.stream());
    Check.due("CALLED behind " + tape, () -> x.count(4), 7);
    Check.due(() -> x.count(3), -1);
    Check.due(() -> x.count(0), 0);
  }

  private static void breaks(String tape, int place) {
    LibraryDesk x = Check.furnished();
    Check.broken(x, tape, () -> x.stream(), place);
  }

  private static final String[] SOURCES = {"range 0 3", "list 0", "keys 2", "values 2", "iterate 1 + 1 | limit 3"};
  private static final String[] STAGES = {"filter even", "map neg", "copies 1", "distinct", "sorted 0", "limit 5", "skip 0", "while > -9", "until even"};
  private static final String[] ENDS = {"count", "sum", "least", "greatest", "first", "any odd", "all odd", "none odd", "fold 0 +", "list", "group 5"};

  /** Each SOURCE, STAGE and END where it can stand, and where it can't. */
  private static void words() {
    for (String s : SOURCES) {
      for (String g : STAGES) {
        for (String e : ENDS) {
          LibraryDesk x = desk(s + " | " + g + " | " + e);
          Check.same(s + " | " + g + " | " + e, Check.of(() -> x.stream()).startsWith("throws"), false);
        }
        breaks(g + " | count", 0);
        breaks(s + " | " + g, s.length() + g.length() + 3);
      }
      breaks("range 0 3 | " + s.replace(" | limit 3", "") + " | count", s.startsWith("list") ? 17 : 12);
      for (String e : ENDS) {
        breaks(e + " | count", e.equals("list") ? 5 : 0);
        breaks(s + " | " + e + " | count", s.length() + e.length() + 4);
        breaks(s + " | " + e + " x", s.length() + e.length() + 4);
        breaks(s + " | " + e + "s", s.length() + 3 + (e.contains(" ") ? e.lastIndexOf(' ') + 1 : 0));
      }
    }
    for (String w : new String[] {"Range", "ranges", "rang", "RANGE", "x", "|", "0"}) {
      breaks(w + " 0 3 | count", 0);
    }
    for (String w : new String[] {"Count", "counts", "coun", "|", "0", ";"}) {
      breaks("range 0 3 | " + w, 12);
    }
    for (String p : new String[] {"even", "odd", "> 1", "< 1", "= 1", "div 2"}) {
      due("range 0 1 | filter " + p + " | count", p.equals("odd") || p.equals("> 1") || p.equals("= 1") ? 0 : 1, 1);
    }
    for (String f : new String[] {"+ 1", "- 1", "* 1", "/ 1", "% 1", "neg", "abs"}) {
      due("range 0 1 | map " + f + " | count", 1, 1);
      breaks("range 0 1 | filter " + f + " | count", 19);
    }
    for (String p : new String[] {"even", "> 1", "div 2", "^ 1", "neg 1", ">= 1", "+1"}) {
      breaks("range 0 1 | map " + p + " | count", p.startsWith("neg") ? 20 : 16);
    }
    for (String g : new String[] {"-", "/", "%", "<", "=", "neg", "1", "++"}) {
      breaks("range 0 1 | fold 0 " + g, 19);
    }
  }

  /** "numbers ([-] 1 to 9 digits ..)". */
  private static void numbers() {
    due("range 0 1 | map + 999999999 | first", 999999999, 1);
    due("range 0 1 | map + -999999999 | first", -999999999, 1);
    due("range 0 1 | map + 000000001 | first", 1, 1);
    due("range 0 1 | map + -000000001 | first", -1, 1);
    due("range 999999998 999999999 | first", 999999998, 0);
    due("range -999999999 -999999998 | first", -999999999, 0);
    for (String n : new String[] {"1000000000", "0000000001", "-1000000000", "--1", "+1", "-", "1-", "1.", "x", "1x", "-x", "", "0x1"}) {
      breaks("range 0 1 | map + " + n + " | first", n.isEmpty() ? 19 : 18);
      breaks("range 0 1 | map + " + n, 18);
      breaks("range " + n + " 1 | first", n.isEmpty() ? 9 : 6);
      breaks("range 1 " + n + " | first", n.isEmpty() ? 9 : 8);
      breaks("iterate " + n + " + 1 | first", n.isEmpty() ? 9 : 8);
      breaks("range 0 1 | fold " + n + " +", n.isEmpty() ? 18 : 17);
    }
    LibraryDesk x = desk("");
    for (int b = 0; b < 256; b++) {
      if (b != ' ' && (b < '0' || b > '9')) {
        Check.broken(x, "range 0 1" + (char) b + " | count", () -> x.stream(), 8);
        Check.broken(x, "range 0" + (char) b + " 1 | count", () -> x.stream(), 6);
        Check.broken(x, "range 0 " + (char) b + " | count", () -> x.stream(), 8);
        Check.broken(x, "range 0 1 | map + 1" + (char) b + "1 | count", () -> x.stream(), 18);
        if (b != '-') {
          Check.broken(x, "range 0 " + (char) b + "1 | count", () -> x.stream(), 8);
        }
      }
    }
  }

  /** "copies n (.. 0 .. 100)", "sorted k (ORDER ..)", "limit n | skip n (0 or more)", "group n (.. n 1 or more ..)": "out of range". */
  private static void numbersInRange() {
    String[][] all = {{"copies 0", "copies 100", "copies -1", "copies 101"}, {"sorted 0", "sorted 3", "sorted -1", "sorted 4"}, {"limit 0", "limit 999999999", "limit -1", "limit 1000000000"},
        {"skip 0", "skip 999999999", "skip -1", "skip 1000000000"}};
    for (String[] a : all) {
      for (int i = 0; i < 4; i++) {
        String tape = "range 0 2 | " + a[i] + " | count";
        if (i < 2) {
          LibraryDesk x = desk(tape);
          Check.same(tape, Check.of(() -> x.stream()).startsWith("throws"), false);
        } else {
          breaks(tape, 12 + a[i].indexOf(' ') + 1);
        }
      }
    }
    due("range 0 2 | group 1", 21, 0);
    due("range 0 2 | group 999999999", 21, 0);
    breaks("range 0 2 | group 0", 18);
    breaks("range 0 2 | group -1", 18);
    breaks("range 0 2 | group 1000000000", 18);
  }

  /** "o 0 .. 23". */
  private static void objectNumbers() {
    for (String s : new String[] {"list", "keys", "values"}) {
      breaks(s + " 24 | count", s.length() + 1);
      breaks(s + " -1 | count", s.length() + 1);
      breaks(s + " x | count", s.length() + 1);
      LibraryDesk x = desk(s + " 23 | count");
      Check.none(x, () -> x.stream());
      for (int kind = 0; kind <= 20; kind++) {
        boolean may = s.equals("list") ? kind == 0 || kind == 10 : kind >= 2 && kind <= 4 || kind == 20;
        LibraryDesk y = desk(s + " " + kind + " | count");
        if (may) {
          Check.due(() -> y.stream(), kind == 3 ? 1 : kind == 10 ? 2 : 3);
        } else {
          Check.cast(y, () -> y.stream());
        }
        Check.due(() -> y.count(3), -1);
      }
    }
    LibraryDesk full = new LibraryDesk();
    for (int i = 0; i < 24; i++) {
      full.make(0, 0, 0);
    }
    full.list(23, 0, 5, 0);
    Check.tape(full, "list 23 | sum");
    Check.due(() -> full.stream(), 5);
  }

  /** "at most 20 STAGES"; "a 21st STAGE: .. its first byte". */
  private static void twentyStages() {
    String twenty = "range 0 4" + " | map + 1".repeat(20);
    due(twenty + " | sum", 86, 80);
    due(twenty + " | fold 0 +", 86, 84);
    for (String s : STAGES) {
      breaks(twenty + " | " + s + " | sum", twenty.length() + 3);
      breaks(twenty + " |   " + s, twenty.length() + 5);
    }
    breaks(twenty + " | map + x | sum", twenty.length() + 3);
    breaks(twenty + " | sam", twenty.length() + 3);
    breaks(twenty, twenty.length());
    breaks(twenty + " |", twenty.length() + 2);
    breaks("range 0 4" + " | map + 1".repeat(21), twenty.length() + 3);
    breaks("range 0 4" + " | map + 1".repeat(19) + " | mop + 1 | map + 1 | sum", 9 + 190 + 3);
  }

  /** Where the tape ends, or another thing stands, PLACE is its length, or that thing's first byte. */
  private static void whatIsMissing() {
    String[][] all = {{"", ""}, {"range", "|"}, {"range 0", "|"}, {"range 0 1", "count"}, {"range 0 1 |", "|"}, {"list", "|"}, {"keys", "|"}, {"values", "|"}, {"iterate", "|"}, {"iterate 1", "|"}, {"iterate 1 +", "|"},
        {"range 0 1 | filter", "|"}, {"range 0 1 | filter >", "|"}, {"range 0 1 | filter div", "|"}, {"range 0 1 | filter even", "5"}, {"range 0 1 | map", "|"}, {"range 0 1 | map *", "|"}, {"range 0 1 | map neg", "5"},
        {"range 0 1 | copies", "|"}, {"range 0 1 | sorted", "|"}, {"range 0 1 | distinct", "5"}, {"range 0 1 | limit", "|"}, {"range 0 1 | skip", "|"}, {"range 0 1 | while", "|"}, {"range 0 1 | until =", "|"},
        {"range 0 1 | any", "|"}, {"range 0 1 | all <", "|"}, {"range 0 1 | none div", "|"}, {"range 0 1 | fold", "|"}, {"range 0 1 | fold 1", "|"}, {"range 0 1 | fold 1 +", "1"}, {"range 0 1 | group", "|"},
        {"range 0 1 | count", "|"}, {"range 0 1 | list", "0"}, {"range 0 1 | first", "first"}};
    for (String[] a : all) {
      boolean whole = a[0].matches(".*(count|list|first|fold 1 \\+)") && a[0].length() > 4;
      if (!whole) {
        breaks(a[0], a[0].length());
        breaks(a[0] + "  ", a[0].length() + 2);
      }
      if (!a[1].isEmpty()) {
        breaks(a[0] + " " + a[1], a[0].length() + 1);
        breaks(a[0] + "   " + a[1] + " 0", a[0].length() + 3);
      }
    }
  }

  /** "blanks (32) between all (around | too)". */
  private static void blanksBetween() {
    due("range   0   3   |   map   +   1   |   sum", 6, 3);
    breaks("range 0 3| sum", 8);
    breaks("range 0 3 |sum", 10);
    breaks("range 0 3|sum", 8);
    breaks("range0 3 | sum", 0);
    breaks("range 0 3 | map +1 | sum", 16);
    breaks("range 0 3 | filter >1 | sum", 19);
    breaks("range 0 3 | filter div2 | sum", 19);
    breaks("range 0 3 || sum", 10);
    breaks("range 0 3 | | sum", 12);
    breaks("range\t0 3 | sum", 0);
    breaks("range 0 3 |\tsum", 10);
    breaks("range 0 3 | sum\n", 12);
    breaks("range 0 3 | sum\0", 12);
    breaks("range 0 3\0 | sum", 8);
  }

  /** "UnsupportedOperationException ..; then OBJECTS as above; then, for list and group, full", then ArithmeticException. */
  private static void orderOfFaults() {
    LibraryDesk x = Check.furnished();
    Check.broken(x, "list 23 | map x | list", () -> x.stream(), 14);
    Check.tape(x, "list 23 | map / 0 | list");
    Check.none(x, () -> x.stream());
    Check.tape(x, "keys 0 | map / 0 | list");
    Check.cast(x, () -> x.stream());
    x.list(0, 0, 1, 0);
    Check.broken(x, "list 10 | map x | list", () -> x.stream(), 14);
    Check.tape(x, "list 10 | map / 0 | list");
    Check.state(x, () -> x.stream());
    Check.tape(x, "list 0 | map / 0 | list");
    Check.arithmetic(x, () -> x.stream());
    for (int i = 21; i < 24; i++) {
      x.make(0, 0, 0);
    }
    for (String end : new String[] {"list", "group 2"}) {
      Check.tape(x, "list 0 | map / 0 | " + end);
      Check.state(x, () -> x.stream());
      Check.tape(x, "list 1 | map / 0 | " + end);
      Check.cast(x, () -> x.stream());
      Check.broken(x, "list 0 | map / 0 | " + end + " 7", () -> x.stream(), 20 + end.length());
    }
    Check.tape(x, "list 0 | map / 0 | count");
    Check.arithmetic(x, () -> x.stream());
    Check.tape(x, "list 0 | count");
    Check.due(() -> x.stream(), 4);
  }

  /** Of no ELEMENT: "least | greatest | first (NONE without)", "(1, 0)", fold a. */
  private static void emptyOnes() {
    String[][] all = {{"count", "0"}, {"sum", "0"}, {"least", "" + Check.NONE}, {"greatest", "" + Check.NONE}, {"first", "" + Check.NONE}, {"any even", "0"}, {"all even", "1"}, {"none even", "1"},
        {"any div 0", "0"}, {"all div 0", "1"}, {"none div 0", "1"}, {"fold -7 *", "-7"}, {"list", "21"}, {"group 1", "21"}};
    for (String[] a : all) {
      due("range 0 0 | " + a[0], Long.parseLong(a[1]), 0);
      due("range 0 9 | limit 0 | " + a[0], Long.parseLong(a[1]), 0);
      due("range 0 0 | map / 0 | sorted 0 | distinct | copies 5 | skip 3 | while even | until odd | " + a[0], Long.parseLong(a[1]), 0);
    }
  }

  /** "range a b (a .. b - 1)". */
  private static void emptyRanges() {
    due("range 5 5 | count", 0, 0);
    due("range 6 5 | count", 0, 0);
    due("range 5 6 | count", 1, 0);
    due("range 5 6 | first", 5, 0);
    due("range -2 2 | sum", -2, 0);
    due("range 999999999 -999999999 | count", 0, 0);
    due("range 0 3 | greatest", 2, 0);
    due("range 0 3 | least", 0, 0);
  }

  /** "a 10001st ELEMENT of the SOURCE". */
  private static void sourcesAtTheLimit() {
    due("range 0 10000 | count", 10000, 0);
    fails("range 0 10001 | count");
    due("range 0 10001 | limit 10000 | count", 10000, 0);
    fails("range 0 10001 | limit 10001 | count");
    due("iterate 0 + 1 | limit 10000 | greatest", 9999, 9999);
    fails("iterate 0 + 1 | limit 10001 | greatest");
    fails("iterate 0 + 1 | count");
    fails("iterate 0 + 1 | filter < 0 | first");
    due("iterate 0 + 1 | filter > 9998 | first", 9999, 19999);
    fails("iterate 0 + 1 | filter > 9999 | first");
    due("range 0 20000 | any = 9999", 1, 10000);
    fails("range 0 20000 | any = 10000");
    due("range 0 20000 | while < 9999 | count", 9999, 10000);
    fails("range 0 20000 | while < 10000 | count");
    fails("range 0 10001 | limit 20000 | skip 20000 | count");
  }

  /** "one that would be the 1000001st GIVEN, of all STAGES and the END together"; "(of copies each one by itself)". */
  private static void givenAtTheLimit() {
    due("range 0 10000 | copies 99 | count", 990000, 0);
    due("range 0 9900 | copies 100 | count", 990000, 0);
    fails("range 0 9901 | copies 100 | count");
    due("range 0 9901 | copies 100 | any = 9900", 1, 990001);
    fails("range 0 9901 | copies 100 | any > 9900");
    due("range 0 10000 | filter > -1 | copies 98 | count", 980000, 10000);
    fails("range 0 10000 | filter > -1 | copies 99 | count");
    due("range 0 10000 | skip 0 | skip 0 | copies 97 | count", 970000, 0);
    fails("range 0 10000 | skip 0 | skip 0 | copies 98 | count");
    due("range 0 10000 | copies 99 | skip 990000 | count", 0, 0);
    fails("range 0 10000 | copies 99 | skip 989999 | count");
    due("range 0 10000 | copies 99 | filter < 0 | count", 0, 990000);
    fails("range 0 10000 | copies 99 | filter < 1 | count");
    due("range 0 4975 | copies 100 | map + 0 | count", 497500, 497500);
    fails("range 0 4976 | copies 100 | map + 0 | count");
    due("range 0 5000 | copies 100 | limit 1 | count", 1, 0);
    LibraryDesk x = desk("range 0 9900 | copies 100 | count");
    for (int i = 0; i < 3; i++) {
      Check.due("STREAM " + i + " with 999900 GIVEN", () -> x.stream(), 990000);
      Check.tape(x, "range 0 10001 | count");
      Check.arithmetic(x, () -> x.stream());
      Check.tape(x, "range 0 10000 | count");
      Check.due(() -> x.stream(), 10000);
      Check.tape(x, "range 0 9901 | copies 100 | count");
      Check.arithmetic(x, () -> x.stream());
      Check.tape(x, "range 0 9900 | copies 100 | count");
    }
  }

  /** "more than 2000 in sorted, distinct, list". */
  private static void keptAtTheLimit() {
    for (String s : new String[] {"sorted 1", "distinct"}) {
      due("range 0 2000 | " + s + " | count", 2000, 0);
      fails("range 0 2001 | " + s + " | count");
      fails("iterate 0 + 1 | " + s + " | count");
    }
    fails("range 0 2001 | sorted 0 | first");
    due("range 0 2001 | distinct | first", 0, 0);
    due("range 0 2001 | distinct | limit 2000 | count", 2000, 0);
    due("range 0 10000 | map % 2000 | distinct | count", 2000, 10000);
    fails("range 0 10000 | map % 2001 | distinct | count");
    due("range 0 2000 | list", 21, 0);
    fails("range 0 2001 | list");
    due("range 0 2001 | limit 2000 | list", 21, 0);
    fails("range 0 21 | copies 100 | list");
    due("range 0 20 | copies 100 | list", 21, 0);
    due("range 0 20 | copies 100 | sorted 0 | count", 2000, 0);
    fails("range 0 21 | copies 100 | sorted 0 | count");
  }

  /** "or 1000 keys in group". */
  private static void keysAtTheLimit() {
    due("range 0 1000 | group 999999999", 21, 0);
    fails("range 0 1001 | group 999999999");
    due("range 0 10000 | group 1000", 21, 0);
    fails("range 0 10000 | group 1001");
    due("range 0 1001 | limit 1000 | group 1001", 21, 0);
    due("range -500 500 | group 1000", 21, 0);
    due("range -500 501 | group 1000", 21, 0);
    fails("range -500 501 | group 1001");
  }

  /** "by 0": ArithmeticException as soon as it is asked, not before. */
  private static void byNought() {
    for (String s : new String[] {"map / 0", "map % 0", "filter div 0", "while div 0", "until div 0"}) {
      fails("range 0 3 | " + s + " | count");
      due("range 0 0 | " + s + " | count", 0, 0);
      due("range 0 3 | limit 0 | " + s + " | count", 0, 0);
      due("range 0 3 | " + s + " | limit 0 | count", 0, 0);
    }
    for (String s : new String[] {"any div 0", "all div 0", "none div 0"}) {
      fails("range 0 3 | " + s);
    }
    due("iterate 5 / 0 | limit 1 | sum", 5, 0);
    due("iterate 5 / 0 | first", 5, 0);
    fails("iterate 5 / 0 | limit 2 | sum");
    fails("iterate 5 % 0 | limit 2 | sum");
    fails("range -1 2 | map neg | filter > 0 | map / 0 | first");
  }

  private static long of(String tape, int... elements) {
    LibraryDesk x = Check.row(elements);
    Check.tape(x, "list 0 | " + tape);
    return x.stream();
  }

  /** F and G: "(ints, cut, sign of the first)". */
  private static void intsWrap() {
    int low = Integer.MIN_VALUE;
    int high = Integer.MAX_VALUE;
    Check.due(() -> of("map + 1 | first", high), low);
    Check.due(() -> of("map - 1 | first", low), high);
    Check.due(() -> of("map * 2 | first", high), -2);
    Check.due(() -> of("map neg | first", low), low);
    Check.due(() -> of("map abs | first", low), low);
    Check.due(() -> of("map / -1 | first", low), low);
    Check.due(() -> of("map % -1 | first", low), 0);
    Check.due(() -> of("filter div -1 | count", low, high, 0), 3);
    Check.due(() -> of("fold 1 +", high), low);
    Check.due(() -> of("fold 2 *", high), -2);
    Check.due(() -> of("fold -1 ^", high), low);
    Check.due(() -> of("fold 0 >", low, -1), 0);
    Check.due(() -> of("fold -5 >", low, high), high);
    Check.due(() -> of("map * -1 | map + 0 | first", low), low);
    Check.due(() -> of("filter even | count", low, high, -1, -2), 2);
    Check.due(() -> of("filter odd | count", low, high, -1, -2), 2);
    Check.due(() -> of("least", high, low, 0), low);
    Check.due(() -> of("greatest", low, high, 0), high);
    Check.due(() -> of("filter > -1 | count", low, high, 0, -1), 2);
    Check.due(() -> of("filter < 1 | count", low, high, 0, 1), 2);
  }

  /** Each F and each END of ELEMENTS that are all above 0, and all below. */
  private static void eachOfSomeElements() {
    due("range 5 9 | least", 5, 0);
    due("range 5 9 | greatest", 8, 0);
    due("range -9 -5 | least", -9, 0);
    due("range -9 -5 | greatest", -6, 0);
    due("range 5 6 | greatest", 5, 0);
    due("range -6 -5 | least", -6, 0);
    due("range 5 9 | sorted 1 | least", 5, 0);
    due("range -9 -5 | sorted 1 | greatest", -6, 0);
    due("range 5 9 | first", 5, 0);
    due("range 5 9 | count", 4, 0);
    due("range 5 9 | sum", 26, 0);
    String[] f = {"neg", "abs", "+ 3", "- 3", "* 3", "/ 3", "% 3", "/ -3", "% -3", "* -3"};
    long[] sums = {-3, 9, 21, -15, 9, 1, 0, -1, 0, -9};
    for (int i = 0; i < f.length; i++) {
      due("range -2 4 | map " + f[i] + " | sum", sums[i], 6);
    }
    due("range 4 7 | map % 3 | sum", 3, 3);
    due("range -6 -3 | map % 3 | sum", -3, 3);
    due("range -6 -3 | map % -3 | sum", -3, 3);
    String[] g = {"+", "*", ">", "^"};
    long[] folds = {19, 240, 6, 4 ^ 4 ^ 5 ^ 6};
    for (int i = 0; i < g.length; i++) {
      due("range 4 7 | fold " + (i == 1 ? 2 : 4) + " " + g[i], folds[i], 3);
    }
    due("range 4 7 | fold 9 >", 9, 3);
    due("range -7 -4 | fold -9 >", -5, 3);
  }

  /** "sum (long)". */
  private static void longSums() {
    LibraryDesk x = Check.row();
    Check.fill(x, 0, 2000);
    x.list(0, 17, Integer.MAX_VALUE, 0);
    Check.tape(x, "list 0 | sum");
    Check.due(() -> x.stream(), 2000L * Integer.MAX_VALUE);
    x.list(0, 17, Integer.MIN_VALUE, 0);
    Check.tape(x, "list 0 | sum");
    Check.due(() -> x.stream(), 2000L * Integer.MIN_VALUE);
    Check.tape(x, "list 0 | copies 100 | sum");
    Check.due(() -> x.stream(), 200000L * Integer.MIN_VALUE);
  }

  /** "/ n | % n (ints, cut, sign of the first)". */
  private static void signs() {
    int[][] all = {{7, 2, 3, 1}, {-7, 2, -3, -1}, {7, -2, -3, 1}, {-7, -2, 3, -1}, {1, 2, 0, 1}, {-1, 2, 0, -1}, {6, 3, 2, 0}};
    for (int[] a : all) {
      Check.due(() -> of("map / " + a[1] + " | first", a[0]), a[2]);
      Check.due(() -> of("map % " + a[1] + " | first", a[0]), a[3]);
      Check.due(() -> of("filter div " + a[1] + " | count", a[0]), a[3] == 0 ? 1 : 0);
    }
  }

  /** "none is asked for behind the last that limit n lets go (with 0 none at all)". */
  private static void limitsOfNone() {
    due("iterate 0 + 1 | filter < 0 | limit 0 | count", 0, 0);
    due("iterate 0 + 1 | map / 0 | limit 0 | count", 0, 0);
    due("iterate 0 + 1 | sorted 0 | limit 0 | first", Check.NONE, 0);
    due("iterate 0 + 1 | filter < 1 | limit 1 | count", 1, 1);
    due("iterate 0 + 1 | filter < 3 | limit 3 | count", 3, 5);
    fails("iterate 0 + 1 | filter < 3 | limit 4 | count");
    due("range 0 3 | limit 3 | count", 3, 0);
    due("range 0 3 | limit 4 | count", 3, 0);
    due("iterate 0 + 1 | limit 2 | limit 3 | count", 2, 1);
    due("iterate 0 + 1 | limit 3 | limit 2 | count", 2, 1);
    due("iterate 0 + 1 | filter < 2 | limit 2 | sorted 1 | list", 21, 3);
    due("iterate 0 + 1 | filter < 2 | limit 2 | skip 2 | count", 0, 3);
    due("iterate 0 + 1 | filter < 2 | limit 2 | distinct | copies 3 | count", 6, 3);
  }

  /** "behind a while that ended, behind what decides first, any, all, none". */
  private static void askedNoMore() {
    due("iterate 0 + 1 | while < 3 | count", 3, 7);
    due("iterate 0 + 1 | while < 0 | count", 0, 1);
    due("iterate 0 + 1 | while < 3 | sorted 0 | count", 3, 7);
    due("iterate 0 + 1 | while < 3 | copies 2 | skip 1 | distinct | sum", 3, 7);
    due("iterate 0 + 1 | while < 3 | skip 9 | count", 0, 7);
    due("iterate 7 + 1 | first", 7, 0);
    due("iterate 7 + 1 | map + 1 | first", 8, 1);
    due("iterate 0 + 1 | any > 2", 1, 7);
    due("iterate 0 + 1 | all < 2", 0, 5);
    due("iterate 0 + 1 | none > 2", 0, 7);
    due("iterate 0 + 1 | any = 0", 1, 1);
    due("iterate 0 + 1 | all > 0", 0, 1);
    due("iterate 0 + 1 | none = 0", 0, 1);
    due("range 0 3 | any > 5", 0, 3);
    due("range 0 3 | all < 5", 1, 3);
    due("range 0 3 | none > 5", 1, 3);
  }

  /** "sorted: all, when the first is asked of it"; ORDERS, stable. */
  private static void sortedOnlyWhenAsked() {
    due("range 0 5 | map + 1 | sorted 1 | first", 5, 5);
    due("range 0 5 | map + 1 | sorted 1 | limit 0 | count", 0, 0);
    due("range 0 3 | sorted 1 | map + 1 | filter > 1 | first", 3, 2);
    Check.due(() -> of("sorted 3 | first", 25, 14, 24, 4), 14);
    Check.due(() -> of("sorted 3 | skip 1 | first", 25, 14, 24, 4), 24);
    Check.due(() -> of("sorted 3 | skip 2 | first", 25, 14, 24, 4), 4);
    Check.due(() -> of("sorted 2 | first", 2, -2, 3), -2);
    Check.due(() -> of("sorted 2 | skip 2 | first", Integer.MAX_VALUE, Integer.MIN_VALUE, 0), Integer.MIN_VALUE);
  }

  /** "copies n (each n times, 0 .. 100)", "one after the other". */
  private static void copiesOfOne() {
    due("range 0 3 | copies 0 | count", 0, 0);
    due("iterate 0 + 1 | while < 3 | copies 0 | count", 0, 7);
    due("range 0 3 | copies 1 | sum", 3, 0);
    due("range 0 3 | copies 100 | sum", 300, 0);
    due("range 5 8 | copies 2 | skip 1 | first", 5, 0);
    due("range 5 8 | copies 2 | skip 2 | first", 6, 0);
    due("iterate 0 + 1 | copies 2 | limit 3 | sum", 1, 1);
    due("iterate 0 + 1 | copies 2 | limit 2 | sum", 0, 0);
    due("range 0 2 | map + 1 | copies 3 | map + 1 | count", 6, 8);
    fails("iterate 0 + 1 | copies 0 | first");
  }

  /** "skip n (0 or more)". */
  private static void skips() {
    due("range 0 5 | skip 0 | first", 0, 0);
    due("range 0 5 | skip 4 | first", 4, 0);
    due("range 0 5 | skip 5 | first", Check.NONE, 0);
    due("range 0 5 | skip 6 | first", Check.NONE, 0);
    due("range 0 5 | skip 999999999 | count", 0, 0);
    due("range 0 5 | map + 1 | skip 3 | first", 4, 4);
    due("range 0 5 | skip 2 | skip 2 | sum", 4, 0);
  }

  /** "while P (up to the first that is not so) | until P (from the first that is so)". */
  private static void whileAndUntil() {
    due("range 0 5 | while < 3 | sum", 3, 4);
    due("range 0 5 | while < 5 | sum", 10, 5);
    due("range 0 5 | while > 0 | sum", 0, 1);
    due("range 0 5 | until > 2 | sum", 7, 4);
    due("range 0 5 | until > 4 | sum", 0, 5);
    due("range 0 5 | until = 0 | sum", 10, 1);
    due("range 0 5 | map % 3 | until = 2 | sum", 3, 8);
    due("range 0 5 | map % 3 | while < 2 | sum", 1, 6);
  }

  /** "distinct (first ones)". */
  private static void distinctOnes() {
    Check.due(() -> of("distinct | count", 1, 1, 1), 1);
    Check.due(() -> of("distinct | skip 1 | first", 5, 5, 3, 5, 4), 3);
    Check.due(() -> of("distinct | skip 2 | first", 5, 5, 3, 5, 4), 4);
    Check.due(() -> of("distinct | count", Integer.MIN_VALUE, Integer.MAX_VALUE, 0, Integer.MIN_VALUE), 3);
    due("iterate 1 * 1 | distinct | first", 1, 0);
    fails("iterate 1 * 1 | distinct | skip 1 | first");
  }

  /** "any P | all P | none P (1, 0)". */
  private static void decided() {
    Check.due(() -> of("any even", 1, 3), 0);
    Check.due(() -> of("any even", 1, 2), 1);
    Check.due(() -> of("all even", 2, 1), 0);
    Check.due(() -> of("all even", 2, 4), 1);
    Check.due(() -> of("none even", 1, 2), 0);
    Check.due(() -> of("none even", 1, 3), 1);
  }

  /** "CALLED: how often a P, F, G was asked"; "iterate: F when the next is asked". */
  private static void calledOnce() {
    due("range 0 5 | filter even | map + 1 | fold 0 +", 9, 5 + 3 + 3);
    due("iterate 1 * 2 | limit 1 | count", 1, 0);
    due("iterate 1 * 2 | limit 5 | count", 5, 4);
    due("range 0 5 | until > 1 | map + 1 | count", 3, 3 + 3);
    due("range 0 5 | distinct | sorted 0 | copies 2 | skip 1 | limit 3 | count", 3, 0);
  }

  /** "list (a new LIST, CAPACITY 0, to which all come at once: its number)". */
  private static void listsMade() {
    int[][] sizes = {{0, 0}, {1, 10}, {10, 10}, {11, 11}, {16, 16}, {2000, 2000}};
    for (int[] s : sizes) {
      LibraryDesk x = desk("range 0 " + s[0] + " | list");
      Check.due(() -> x.stream(), 21);
      Check.due(() -> x.count(31), 0);
      Check.due(() -> x.list(21, 24, 0, 0), s[0]);
      Check.due("CAPACITY of " + s[0], () -> x.list(21, 27, 0, 0), s[1]);
      Check.due(() -> x.drop(21), 1);
    }
    LibraryDesk x = desk("list 0 | list");
    Check.due(() -> x.stream(), 21);
    Check.due(() -> x.list(21, 26, 0, 0), 1);
    x.list(21, 0, 9, 0);
    Check.due(() -> x.list(0, 24, 0, 0), 3);
    Check.due(() -> x.list(10, 24, 0, 0), 2);
  }

  /** "group n (a new HASH, CAPACITY 0, RULE 0: x mod n .., with how many)", mod never below 0. */
  private static void groupsMade() {
    LibraryDesk x = desk("range -4 3 | group 3");
    Check.due(() -> x.stream(), 21);
    Check.due(() -> x.count(31), 2);
    Check.keys(x, 21, 0, 1, 2);
    int[] many = {2, 2, 3};
    for (int k = 0; k < 3; k++) {
      int key = k;
      Check.due(() -> x.map(21, 1, key, 0), many[key]);
    }
    Check.due(() -> x.map(21, 21, 0, 0), 4);
    Check.tape(x, "range 0 0 | group 3");
    Check.due(() -> x.stream(), 22);
    Check.due(() -> x.map(22, 4, 0, 0), 0);
    Check.due(() -> x.map(22, 21, 0, 0), 0);
    Check.tape(x, "range -9 9 | group 1");
    Check.due(() -> x.stream(), 23);
    Check.keys(x, 23, 0);
    Check.due(() -> x.map(23, 1, 0, 0), 18);
    LibraryDesk z = desk("range 0 100 | map * -1 | group 200");
    Check.due(() -> z.stream(), 21);
    Check.due(() -> z.map(21, 4, 0, 0), 100);
    Check.due(() -> z.map(21, 21, 0, 0), 256);
    Check.due(() -> z.map(21, 22, 0, 0), 0);
    Check.due(() -> z.item(21, 0, 0), 0);
    for (int i = 1; i < 100; i++) {
      int k = i;
      Check.due(() -> z.item(21, k, 0), 100 + k);
    }
    LibraryDesk y = Check.row(Integer.MIN_VALUE, Integer.MAX_VALUE, -1);
    Check.tape(y, "list 0 | group 10");
    Check.due(() -> y.stream(), 1);
    for (int key : new int[] {2, 7, 9}) {
      Check.due(() -> y.map(1, 1, key, 0), 1);
    }
  }

  /** What a SOURCE has stays as it is: no LIST, no MAP that goes by use is changed. */
  private static void sourcesStay() {
    LibraryDesk x = new LibraryDesk();
    x.make(3, 0, 1);
    x.make(0, 0, 0);
    for (int i = 3; i > 0; i--) {
      x.map(0, 0, i, 10 * i);
      x.list(1, 0, i, 0);
    }
    for (String tape : new String[] {"keys 0 | sorted 0 | sum", "values 0 | map neg | sum", "list 1 | sorted 0 | map + 1 | sum", "list 1 | distinct | first"}) {
      Check.tape(x, tape);
      Check.same(tape, Check.of(() -> x.stream()).startsWith("throws"), false);
      Check.keys(x, 0, 3, 2, 1);
      Check.holds(x, 1, 3, 2, 1);
    }
    LibraryDesk y = Check.furnished();
    Check.tape(y, "keys 20 | first");
    Check.due(() -> y.stream(), 1);
    Check.tape(y, "keys 4 | first");
    Check.due(() -> y.stream(), 3);
    Check.tape(y, "values 20 | first");
    Check.due(() -> y.stream(), 10);
    Check.tape(y, "list 10 | first");
    Check.due(() -> y.stream(), 3);
  }

  /** A STREAM begins anew, whatever the one before it was, and where that threw. */
  private static void oneBehindTheOther() {
    String[] tapes = {"range 0 9 | filter odd | skip 1 | limit 2 | sum", "iterate 1 * 2 | limit 5 | list", "range 0 5 | sorted 1 | copies 2 | first", "range 0 5 | distinct | until > 2 | count", "range 0 9 | group 4",
        "iterate 5 + 1 | while < 8 | copies 3 | distinct | sum", "range 0 3 | copies 2 | map + 1 | list", "list 0 | sorted 0 | least", "range 0 0 | greatest", "range 3 9 | any > 5", "values 4 | fold 0 +"};
    for (String first : tapes) {
      for (String second : tapes) {
        for (String fault : new String[] {"", "iterate 0 + 1 | sorted 0 | skip 3 | list", "range 0 9 | distinct | copies 3 | map / 0 | count", "list 23 | sum", "range 0 3 | sum x"}) {
          LibraryDesk x = desk(first);
          Check.of(() -> x.stream());
          if (!fault.isEmpty()) {
            Check.tape(x, fault);
            Check.same(fault, Check.of(() -> x.stream()).startsWith("throws."), true);
          }
          Check.tape(x, second);
          String got = Check.of(() -> x.stream());
          LibraryDesk y = desk(second);
          if (first.endsWith("list") || first.contains("group")) {
            y.make(19, 0, 0);
          }
          Check.same(second + " behind " + first, got, Check.of(() -> y.stream()));
          Check.same("CALLED", x.count(4), y.count(4));
          if (second.endsWith("list") || second.contains("group")) {
            int o = Integer.parseInt(got);
            Check.same("what was made", State.of(x, o), State.of(y, o));
          }
        }
      }
    }
    LibraryDesk x = desk("range 0 3 | list");
    Check.due(() -> x.stream(), 21);
    Check.tape(x, "range 5 9 | list");
    Check.due(() -> x.stream(), 22);
    Check.tape(x, "range 5 9 | group 3");
    Check.due(() -> x.stream(), 23);
    Check.holds(x, 21, 0, 1, 2);
    Check.holds(x, 22, 5, 6, 7, 8);
    Check.keys(x, 23, 0, 1, 2);
    x.drop(21);
    Check.tape(x, "list 22 | skip 2 | list");
    Check.due(() -> x.stream(), 21);
    Check.holds(x, 21, 7, 8);
    x.list(21, 0, 9, 0);
    Check.holds(x, 22, 5, 6, 7, 8);
  }
}
