/** The edges that the document names of PATTERNS, MATCHES, GROUPS and what replaces them (promises 9 and 10). */
public final class EdgePatternTest {
  private static final int LOW = Integer.MIN_VALUE;
  private static final int HIGH = Integer.MAX_VALUE;

  public static void main(String[] args) {
    bytesThatStand();
    longTapes();
    numbersOfTimes();
    noQuantifierBehind();
    oneQuantifierAlone();
    openOnes();
    tenthGroup();
    lookaheadsWithin();
    possessivesWithin();
    sets();
    ranges();
    weightOfEach();
    tooHeavyOrBroken();
    oneBehindTheOther();
    bytesThatTheyTake();
    placesThatTheyAskFor();
    longTexts();
    placesOfMatches();
    untilTheEnd();
    groupsOfTheLatest();
    groupsThatStay();
    roundsThatTakeNothing();
    roundsFirstOrLast();
    withoutGoingBack();
    lookaheads();
    timesAtLeastAndMost();
    replacedNothing();
    replacedFurther();
    marks();
    replacedByNineGroups();
    longReplaced();
    replaceLeavesGroups();
    Check.end("EdgePatternTest");
  }

  private static LibraryDesk desk(String pattern, String text) {
    LibraryDesk x = new LibraryDesk();
    Check.tape(x, pattern);
    Check.due(pattern, () -> x.pattern(), 0);
    Check.text(x, text);
    return x;
  }

  private static void good(String pattern) {
    LibraryDesk x = new LibraryDesk();
    Check.tape(x, pattern);
    Check.due("<" + pattern + ">", () -> x.pattern(), 0);
    Check.due(() -> x.count(3), -1);
    Check.due(() -> x.count(10), 8);
  }

  private static void breaks(String pattern, int place) {
    LibraryDesk x = new LibraryDesk();
    Check.broken(x, pattern, () -> x.pattern(), place);
  }

  /** Behind begin each byte of done can stand, and with end the tape is a PATTERN; each of open can, but more is due; so no other one but of some can. */
  private static void stand(String begin, String done, String end, String open, String some) {
    for (int b = 0; b < 256; b++) {
      String tape = begin + (char) b;
      if (open.indexOf(b) >= 0) {
        breaks(tape, tape.length());
      } else if (done.indexOf(b) >= 0) {
        good(tape + end);
      } else if (some.indexOf(b) < 0) {
        breaks(tape + end, begin.length());
        breaks(tape, begin.length());
      }
    }
  }

  private static String without(String bytes) {
    StringBuilder b = new StringBuilder();
    for (char c = 32; c < 127; c++) {
      if (bytes.indexOf(c) < 0) {
        b.append(c);
      }
    }
    return b.toString();
  }

  private static final String SIGNS = without("abcdefghijklmnopqrstuvwxyzABCDEFGHIJKLMNOPQRSTUVWXYZ0123456789");

  /** "bytes 32 .. 126"; "byte but \ | * + ? ( ) [ { . ^ $"; what stands behind what. */
  private static void bytesThatStand() {
    for (String s : new String[] {"", "a|", "a*?", "a++", "^", "$", "\\b", "(?=a)"}) {
      stand(s, without("*+?{)([\\"), "", "([\\", "");
    }
    for (String s : new String[] {"(?:", "(?!", "(a*?", "((?:a)|"}) {
      stand(s, without("*+?{)([\\"), ")", "([\\", ")");
    }
    for (String s : new String[] {"a", "()", ".", "\\.", "\\d", "[a]", "}", "]"}) {
      stand(s, without(")([\\{"), "", "([\\{", "");
    }
    for (String s : new String[] {"a*", "a+", "a?", "a{3}", "a{3,}", "a{3,4}"}) {
      stand(s, without("*{)([\\"), "", "([\\", "");
    }
    stand("(", without("*+?{)([\\"), ")", "?([\\", ")");
    stand("(a", without("){([\\"), ")", "([\\{", ")");
    stand("(?", ":=!", "a)", "", "");
    stand("a{", "0123456789", "}", "", "");
    stand("a{1,", "123456789", "}", "", "}");
    stand("\\", "dwsDWSbB" + SIGNS, "", "", "");
    stand("[", without("]^\\"), "]", "^\\", "");
    stand("[^", without("]\\"), "]", "\\", "");
    stand("[a", without("]\\"), "]", "\\", "]");
    stand("[\\", "dwsDWS" + SIGNS, "]", "", "");
    stand("[!-", without("]\\ "), "]", "\\", "] ");
    for (String s : new String[] {"()", "(a)", "(?:)", "a{1,}", "[a]", "[!-]"}) {
      good(s);
    }
  }

  /** "at most 200 bytes": the 201st can't stand there, whatever it is; "its length at the end". */
  private static void longTapes() {
    good("a".repeat(200));
    good("a".repeat(198) + "a*");
    good("a".repeat(197) + "[a]");
    breaks("a".repeat(201), 200);
    breaks("a".repeat(200) + "*", 200);
    breaks("a".repeat(4000), 200);
    breaks("a".repeat(199) + "(a)", 200);
    breaks("a".repeat(198) + "(a)", 200);
    breaks("a".repeat(199) + "[", 200);
    breaks("a".repeat(198) + "[a", 200);
    breaks("a".repeat(199) + "\\", 200);
    breaks("a".repeat(199) + "\\d", 200);
    breaks("a".repeat(197) + "a{1}", 200);
    breaks("a".repeat(198) + "**", 199);
    good("");
    good("|");
  }

  /** "n, m at most 20, n <= m, 0 or not beginning with 0"; "(of a number too great, of m below n ..: its first)". */
  private static void numbersOfTimes() {
    for (int n = 0; n <= 20; n++) {
      good("a{" + n + "}");
      good("a{" + n + ",}");
      for (int m = 0; m <= 22; m++) {
        String tape = "a{" + n + "," + m + "}";
        if (m < n || m > 20) {
          breaks(tape, tape.indexOf(',') + 1);
        } else {
          good(tape);
        }
      }
    }
    for (int n : new int[] {21, 22, 29, 30, 99, 100, 200, 999}) {
      breaks("a{" + n + "}", 2);
      breaks("a{" + n + ",}", 2);
      breaks("a{" + n + ",1}", 2);
      breaks("a{" + n, 2);
      breaks("a{20," + n + "}", 5);
    }
    breaks("a{99999999999}", 2);
    breaks("a{4294967297}", 2);
    breaks("a{00}", 3);
    breaks("a{01}", 3);
    breaks("a{020}", 3);
    breaks("a{0,00}", 5);
    breaks("a{0,01}", 5);
    breaks("a{,3}", 2);
    breaks("a{}", 2);
    breaks("a{3", 3);
    breaks("a{3,", 4);
    breaks("a{", 2);
    breaks("a{3,4", 5);
    breaks("a{3 }", 3);
    breaks("a{3, 4}", 4);
    breaks("a{3,4,}", 5);
    breaks("a{-1}", 2);
    breaks("a{1.}", 3);
    breaks("a{1,01}", 4);
    breaks("a{2,00}", 4);
    breaks("a{2,019}", 4);
    for (int b = 32; b < 127; b++) {
      if (b < '0' || b > '9') {
        breaks("a{" + (char) b + "1}", 2);
        breaks("a{1," + (b == '}' ? "" : (char) b + "1}"), 4);
        if (b != ',' && b != '}') {
          breaks("a{1" + (char) b + "}", 3);
          breaks("a{1,1" + (char) b + "}", 5);
        }
      }
    }
  }

  /** "no quantifier behind ^, $, \b, \B, (?=, (?!". */
  private static void noQuantifierBehind() {
    for (String s : new String[] {"^", "$", "\\b", "\\B", "(?=a)", "(?!a)", "a|", "", "(?:", "("}) {
      for (String q : new String[] {"*", "+", "{1}", "{", "*?"}) {
        breaks(s + q, s.length());
      }
      if (!s.equals("(")) {
        breaks(s + "?", s.length());
      }
    }
    for (String s : new String[] {"a", ".", "\\d", "\\.", "[ab]", "(a)", "()", "(?:a)", "(?:^)", "(?:(?=a))", "(?:\\b)", "]", "}"}) {
      for (String q : new String[] {"*", "+", "?", "{1}", "{1,}", "{1,2}", "*?", "+?", "??", "{2}?"}) {
        good(s + q);
      }
    }
  }

  /** "ATOM [(* | + | ? | {n} ..) [? | +]]": one quantifier, and one sign behind it. */
  private static void oneQuantifierAlone() {
    for (String q : new String[] {"*", "+", "?", "{1}", "{0,}", "{1,2}"}) {
      String a = "a" + q;
      good(a + "?");
      good(a + "+");
      for (String more : new String[] {"*", "{1}", "{"}) {
        breaks(a + more, a.length());
      }
      for (String more : new String[] {"*", "+", "?", "{1}"}) {
        breaks(a + "?" + more, a.length() + 1);
        breaks(a + "+" + more, a.length() + 1);
      }
    }
  }

  /** "At most 10 ( open"; "of an 11th ( that is open: its first". */
  private static void openOnes() {
    for (String open : new String[] {"(?:", "(?:a|", "(?:b"}) {
      good(open.repeat(10) + ")".repeat(10));
      breaks(open.repeat(11) + ")".repeat(11), 10 * open.length());
      breaks(open.repeat(10) + "(", 10 * open.length());
      breaks(open.repeat(10) + "(?", 10 * open.length());
      breaks(open.repeat(10) + "(?=", 10 * open.length());
      breaks(open.repeat(10) + ")".repeat(9), 10 * open.length() + 9);
      good(open.repeat(10) + ")(?:)" + ")".repeat(9));
    }
    good("(".repeat(9) + "(?:a)" + ")".repeat(9));
    good("(?=" + "(?:".repeat(9) + ")".repeat(10));
    breaks("(?!" + "(?:".repeat(10), 30);
    good("(?:)".repeat(50));
    breaks(")", 0);
    breaks("a)", 1);
    breaks("(a))", 3);
    breaks("(a", 2);
    breaks("((a)", 4);
  }

  /** "( ALT ) a GROUP, .. at most 9"; "of a 10th GROUP: its first". */
  private static void tenthGroup() {
    good("(a)".repeat(9));
    breaks("(a)".repeat(10), 27);
    good("(a)".repeat(9) + "(?:a)(?=a)(?!a)");
    breaks("(a)".repeat(9) + "(?:(b))", 30);
    breaks("(".repeat(9) + "(a", 9);
    good("(?=(a))" + "(a)".repeat(8));
    breaks("(?=(a))" + "(a)".repeat(9), 31);
    breaks("(?!(a))" + "(a)".repeat(9), 31);
    breaks("(a){0}" + "(a)".repeat(9), 30);
  }

  /** "Lookaheads .. do not stand within one another (the ( of the inner lookahead .. can't stand there)". */
  private static void lookaheadsWithin() {
    for (String open : new String[] {"(?=", "(?!"}) {
      for (String inner : new String[] {"(?=", "(?!"}) {
        breaks(open + inner + "a))", 3);
        breaks(open + "a" + inner + "a))", 4);
        breaks(open + "(?:b|" + inner + "a)))", 8);
        breaks(open + "(b)*" + inner, 7);
        good(open + "a)" + inner + "b)");
        good("(?:" + open + "a)|" + inner + "b))");
      }
    }
  }

  /** "what a possessive + stands behind, do not stand within one another (.. or that +, can't stand there)". */
  private static void possessivesWithin() {
    for (String open : new String[] {"(?=", "(?!"}) {
      breaks(open + "a*+)", 5);
      breaks(open + "(?:b|a{2}+))", 12);
      breaks(open + "a++", 5);
      breaks("(?:" + open + "a)b)*+", 11);
      breaks("(" + open + "a)|b)?+", 10);
      good(open + "a*)b*+");
      good("b*+" + open + "a)");
      good("(?:b*+" + open + "a))*");
    }
    breaks("(?:a*+)*+", 8);
    breaks("(?:a?+|b){2}+", 12);
    breaks("((a)++)++", 8);
    good("(?:a*+b*+)*");
    good("a*+b*+c{2}+");
    good("(?:a*+)(?:b)*+");
    good("(?:a*)*+");
    breaks("(?:(?:a*+)*)*+", 13);
  }

  /** "one at least"; "(a - ahead of ] is itself)"; "\ as before but b, B". */
  private static void sets() {
    breaks("[", 1);
    breaks("[]", 1);
    breaks("[]]", 1);
    breaks("[^]", 2);
    breaks("[^", 2);
    breaks("[^]]", 2);
    breaks("[a", 2);
    breaks("[a-", 3);
    breaks("[^a", 3);
    breaks("[\\", 2);
    breaks("[\\b]", 2);
    breaks("[a\\B]", 3);
    breaks("[a\\z]", 3);
    breaks("[a\u007f]", 2);
    breaks("[a-\u007f]", 3);
    breaks("[\n]", 1);
    takes("[-]", "-", "a]");
    takes("[a-]", "a-", "b]");
    takes("[-a]", "a-", "b]");
    takes("[^-]", "ab]\n", "-");
    takes("[^a-]", "b]^\n\u00ff", "a-");
    takes("[a^]", "a^", "b");
    takes("[^^]", "ab", "^");
    takes("[\\]\\\\]", "]\\", "a");
    takes("[\\^a]", "^a", "b");
    takes("[\\-a]", "-a", "\\b");
    takes("[.*+?(){|$]", ".*+?(){|$", "ab\\");
    takes("[[]", "[", "]");
    takes("[\\d-z]", "059-z", "ax");
    takes("[a-\\d]", "a-09", "bz\\");
    takes("[a-c-e]", "abc-e", "d");
    takes("[\\D\\d]", "a0\n\u00ff", "");
    takes("[^\\D\\d]", "", "a0\n\u00ff");
    takes("[^\\w]", "-\n\u00ff", "aZ0_");
  }

  /** "with - and a byte y .. all from x to y"; "of a range with y below x: its first". */
  private static void ranges() {
    breaks("[b-a]", 1);
    breaks("[xb-a]", 2);
    breaks("[^b-a]", 2);
    breaks("[a-cz-y]", 4);
    breaks("[b-a", 1);
    takes("[a-a]", "a", "`b");
    takes("[a-b]", "ab", "`c");
    takes("[ -~]", " ~a", "\u001f\u007f\n");
    takes("[+--]", "+,-", "*.");
    takes("[--/]", "-./", ",0");
    takes("[^a-c]", "`d\u00ff\n", "abc");
  }

  /** The PATTERN takes each of the first bytes, and none of the others. */
  private static void takes(String pattern, String bytes, String others) {
    LibraryDesk x = desk(pattern, "");
    for (char c : (bytes + others).toCharArray()) {
      Check.tape(x, "" + c);
      x.text(1, 3, 0, (int) x.text(1, 11, 0, 0));
      Check.due("<" + pattern + "> of " + (int) c, () -> x.match(0, 1, 0, 0), bytes.indexOf(c) >= 0 ? 1 : -1);
    }
  }

  private static String fill(int weight) {
    return "a{20}".repeat(weight / 20) + (weight % 20 == 0 ? "" : "a{" + weight % 20 + "}");
  }

  /** What each part weighs: "together above 400: IndexOutOfBoundsException". */
  private static void weightOfEach() {
    Object[][] all = {{"b", 1}, {".", 1}, {"[a-z0]", 1}, {"\\d", 1}, {"\\.", 1}, {"^", 1}, {"$", 1}, {"\\b", 1}, {"\\B", 1}, {"b*", 2}, {"b?", 2}, {"b+", 3}, {"b*?", 2}, {"b??", 2},
        {"b+?", 3}, {"b*+", 3}, {"b?+", 3}, {"b++", 4}, {"b{0}", 0}, {"b{1}", 1}, {"b{3}", 3}, {"b{3}?", 3}, {"b{3}+", 4}, {"b{0}+", 1}, {"b{0,}", 2}, {"b{1,}", 3}, {"b{3,}", 5}, {"b{3,}+", 6},
        {"b{0,0}", 0}, {"b{0,1}", 2}, {"b{2,2}", 2}, {"b{2,5}", 8}, {"b{2,5}+", 9}, {"b{0,20}", 40}, {"()", 2}, {"(b)", 3}, {"(?:)", 1}, {"(?:b)", 2}, {"(?=)", 1}, {"(?=b)", 2}, {"(?!)", 1}, {"(?!b)", 2},
        {"|", 1}, {"||", 2}, {"b|c", 3}, {"(?:b|c){3}", 12}, {"(b){2}", 6}, {"(b*)*", 5}, {"(?:b+){2,3}", 13}, {"(?:b++)", 5}, {"(?:b{20}){0}", 0}, {"(?:b{20}){19}", 399}, {"(?:(?:b{20}){20}){0}b", 1},
        {"(?:(?:b{2}){2}){2}", 14}, {"(?:b?){20}", 60}, {"(?:b?){1,20}", 3 + 19 * 4}, {"(?:b{4}+)*", 7}};
    for (Object[] w : all) {
      int weight = (Integer) w[1];
      LibraryDesk x = new LibraryDesk();
      Check.tape(x, fill(400 - weight) + w[0]);
      Check.due("400 with " + w[0], () -> x.pattern(), 0);
      Check.tape(x, fill(401 - weight) + w[0]);
      Check.beyond(x, () -> x.pattern());
      Check.due(() -> x.count(3), -1);
      Check.due(() -> x.count(0), 0);
    }
    LibraryDesk x = new LibraryDesk();
    for (String heavy : new String[] {"(?:a{20}){20}", "(?:(?:(?:(?:(?:(?:(?:(?:(?:(?:a{20}){20}){20}){20}){20}){20}){20}){20}){20}){20}){20}", "(?:a+){20}".repeat(6)}) {
      Check.tape(x, heavy);
      Check.beyond(x, () -> x.pattern());
    }
    good("(?:(?:(?:(?:(?:(?:(?:(?:(?:(?:a{20}){20}){20}){20}){20}){20}){20}){20}){20}){20}){0}");
    good("|".repeat(200));
  }

  /** UnsupportedOperationException comes ahead of IndexOutOfBoundsException, and that ahead of full. */
  private static void tooHeavyOrBroken() {
    breaks("a{20}".repeat(21) + "*", 105);
    breaks("(?:a{20}){20}b(", 15);
    LibraryDesk x = new LibraryDesk();
    for (int i = 0; i < 24; i++) {
      x.make(7, 0, 0);
    }
    Check.tape(x, "a{20}".repeat(21));
    Check.beyond(x, () -> x.pattern());
    Check.tape(x, "a{20}".repeat(20));
    Check.state(x, () -> x.pattern());
    Check.due(() -> x.count(3), -1);
    Check.due(() -> x.drop(23), 1);
    Check.tape(x, "a{20}".repeat(20));
    Check.due(() -> x.pattern(), 23);
  }

  /** ". (any byte but 10)"; "d w s D W S (0-9; these, letters, _; 9 .. 13, 32; all others)", of all bytes 0 .. 255. */
  private static void bytesThatTheyTake() {
    StringBuilder all = new StringBuilder();
    for (int b = 0; b < 256; b++) {
      all.append((char) b);
    }
    String digits = "0123456789";
    String words = digits + "abcdefghijklmnopqrstuvwxyzABCDEFGHIJKLMNOPQRSTUVWXYZ_";
    String blanks = "\t\n\u000b\f\r ";
    String[][] sets = {{".", but(all, "\n")}, {"\\d", digits}, {"\\w", words}, {"\\s", blanks}, {"\\D", but(all, digits)}, {"\\W", but(all, words)}, {"\\S", but(all, blanks)},
        {"[\\d]", digits}, {"[\\w]", words}, {"[\\s]", blanks}, {"[\\D]", but(all, digits)}, {"[\\W]", but(all, words)}, {"[\\S]", but(all, blanks)}, {"[^\\s]", but(all, blanks)}, {"\\_", "_"}, {"\\~", "~"}, {"\\ ", " "}};
    for (String[] s : sets) {
      takes(s[0], s[1], but(all, s[1]));
    }
  }

  private static String but(CharSequence all, String some) {
    StringBuilder b = new StringBuilder();
    for (int i = 0; i < all.length(); i++) {
      if (some.indexOf(all.charAt(i)) < 0) {
        b.append(all.charAt(i));
      }
    }
    return b.toString();
  }

  private static void found(String pattern, String text, int how, int a, int end, int... groups) {
    LibraryDesk x = desk(pattern, text);
    Check.due("<" + pattern + "> in <" + text + ">", () -> x.match(0, 1, how, a), end);
    for (int i = 0; i < groups.length; i++) {
      int k = i;
      Check.due("group " + i + " of <" + pattern + "> in <" + text + ">", () -> x.group(k / 2, k % 2), groups[i]);
    }
  }

  /** "^, $ (beginning, end of the TEXT)"; "b, B (between a w and none, or not so)", at both ends, too. */
  private static void placesThatTheyAskFor() {
    found("^", "ab", 1, 0, 0);
    found("^", "ab", 1, 1, -1);
    found("^", "ab", 2, 1, -1);
    found("^", "\na", 2, 1, -1);
    found("$", "ab", 1, 2, 2);
    found("$", "ab", 1, 1, -1);
    found("$", "a\n", 1, 1, -1);
    found("^$", "", 0, 0, 0);
    found("\\b", "", 1, 0, -1);
    found("\\B", "", 1, 0, 0);
    found("\\b", "a", 1, 0, 0);
    found("\\b", "a", 1, 1, 1);
    found("\\B", "a", 2, 0, -1);
    found("\\b", "-", 2, 0, -1);
    found("\\B", "-", 1, 1, 1);
    found("\\b", "a_0", 2, 1, 3);
    found("\\b", "a\u00e9", 1, 1, 1);
    found("\\B", "ab", 2, 0, 1);
  }

  /** "t TEXT of at most 1000 bytes (else beyond ..)". */
  private static void longTexts() {
    LibraryDesk x = desk("a*", "a".repeat(1000));
    Check.due(() -> x.match(0, 1, 0, 0), 1000);
    Check.due(() -> x.match(0, 1, 1, 1000), 1000);
    Check.due(() -> x.match(0, 1, 2, 999), 1000);
    x.text(1, 12, 1001, 0);
    for (int how = 0; how < 3; how++) {
      int h = how;
      Check.beyond(x, () -> x.match(0, 1, h, 0));
    }
    Check.illegal(x, () -> x.match(0, 1, 3, 0));
    Check.illegal(x, () -> x.match(0, 1, -1, 0));
    x.text(1, 12, 4000, 0);
    Check.beyond(x, () -> x.match(0, 1, 0, 0));
  }

  /** 1: "at place a (0 .. size, else beyond)"; 2: "at the first place from a on". */
  private static void placesOfMatches() {
    LibraryDesk x = desk("b?", "ab");
    for (int a : new int[] {-1, 3, LOW, HIGH}) {
      Check.beyond(x, () -> x.match(0, 1, 1, a));
      Check.beyond(x, () -> x.match(0, 1, 2, a));
      Check.due(() -> x.match(0, 1, 0, a), -1);
    }
    Check.due(() -> x.match(0, 1, 1, 0), 0);
    Check.due(() -> x.match(0, 1, 1, 1), 2);
    Check.due(() -> x.match(0, 1, 1, 2), 2);
    Check.due(() -> x.group(0, 0), 2);
    Check.due(() -> x.match(0, 1, 2, 0), 0);
    Check.due(() -> x.match(0, 1, 2, 2), 2);
    found("b", "abab", 2, 0, 2, 1, 2);
    found("b", "abab", 2, 1, 2, 1, 2);
    found("b", "abab", 2, 2, 4, 3, 4);
    found("b", "abab", 2, 4, -1);
    found("b", "abab", 1, 0, -1);
    found("", "", 1, 0, 0, 0, 0);
    found("", "", 2, 0, 0, 0, 0);
    found("a", "", 2, 0, -1);
  }

  /** 0: "at place 0 just to the end (of all ways the first that comes there)". */
  private static void untilTheEnd() {
    found("a|ab", "ab", 0, 0, 2);
    found("a|ab", "ab", 1, 0, 1);
    found("a*?", "aaa", 0, 0, 3);
    found("a*?", "aaa", 1, 0, 0);
    found("a", "ba", 0, 0, -1);
    found("a", "ab", 0, 0, -1);
    found("(a|ab)(c|bcd)?(d*)", "abcd", 0, 0, 4, 0, 4, 0, 1, 1, 4, 4, 4);
    found("(a|ab)(c|bcd)(d*)", "abcdd", 0, 0, 5, 0, 5, 0, 1, 1, 4, 4, 5);
    found("", "", 0, 0, 0);
    found("", "a", 0, 0, -1);
    found("(?:a|ab)++", "ab", 0, 0, -1);
  }

  /** group: "of the latest match that was one: GROUP i 0 .. 9 (0 all), part 0 begin, 1 end; -1 for none". */
  private static void groupsOfTheLatest() {
    LibraryDesk x = desk("(a)|(b)", "bac");
    for (int i : new int[] {-1, 10, LOW, HIGH}) {
      Check.illegal(x, () -> x.group(i, 0));
      Check.illegal(x, () -> x.group(0, i));
    }
    Check.illegal(x, () -> x.group(0, 2));
    Check.illegal(x, () -> x.group(9, 2));
    Check.due(() -> x.match(0, 1, 1, 0), 1);
    int[][] groups = {{0, 0, 1}, {1, -1, -1}, {2, 0, 1}, {3, -1, -1}, {9, -1, -1}};
    for (int turn = 0; turn < 3; turn++) {
      for (int[] g : groups) {
        Check.due(() -> x.group(g[0], 0), g[1]);
        Check.due(() -> x.group(g[0], 1), g[2]);
      }
      if (turn == 0) {
        Check.still(x, () -> x.match(0, 1, 1, 2), -1);
        Check.still(x, () -> x.match(0, 1, 0, 0), -1);
      } else if (turn == 1) {
        Check.beyond(x, () -> x.match(0, 1, 1, 4));
        Check.none(x, () -> x.match(0, 9, 1, 0));
        Check.due(() -> x.drop(0) + x.drop(1), 2);
      }
    }
    LibraryDesk y = desk("(a)(b)(c)(d)(e)(f)(g)(h)(i)", "abcdefghi");
    Check.due(() -> y.match(0, 1, 0, 0), 9);
    Check.due(() -> y.group(9, 0), 8);
    Check.due(() -> y.group(9, 1), 9);
  }

  /** "GROUPS have what they had last (in a round before, too), none at first". */
  private static void groupsThatStay() {
    found("(?:(a)|b)*", "ab", 0, 0, 2, 0, 2, 0, 1);
    found("(?:(a)|(b))*", "aba", 0, 0, 3, 0, 3, 2, 3, 1, 2);
    found("(a)*b", "b", 0, 0, 1, 0, 1, -1, -1);
    found("(a){0}b", "b", 0, 0, 1, 0, 1, -1, -1);
    found("(a)*", "aaa", 0, 0, 3, 0, 3, 2, 3);
    found("(a)?a", "a", 0, 0, 1, 0, 1, -1, -1);
    found("(?:(a)b|ac)", "ac", 0, 0, 2, 0, 2, -1, -1);
    found("((a)|b)+", "ab", 0, 0, 2, 0, 2, 1, 2, 0, 1);
  }

  /** "a round beyond n of * + {n,} that takes no byte is no way"; those of ? {n} {n,m} may take none. */
  private static void roundsThatTakeNothing() {
    found("(a?)*", "", 0, 0, 0, 0, 0, -1, -1);
    found("(a?)+", "", 0, 0, 0, 0, 0, 0, 0);
    found("(a?){0,}", "", 0, 0, 0, 0, 0, -1, -1);
    found("(a?){1,}", "", 0, 0, 0, 0, 0, 0, 0);
    found("(a?)?", "", 0, 0, 0, 0, 0, 0, 0);
    found("(a?){0,1}", "", 0, 0, 0, 0, 0, 0, 0);
    found("(a?){3}", "a", 0, 0, 1, 0, 1, 1, 1);
    found("(a?)*", "a", 0, 0, 1, 0, 1, 0, 1);
    found("(a?)+", "a", 0, 0, 1, 0, 1, 0, 1);
    found("(a?){2,}", "a", 0, 0, 1, 0, 1, 1, 1);
    found("(a?){0,2}", "a", 0, 0, 1, 0, 1, 1, 1);
    found("(|a)*", "a", 0, 0, 1, 0, 1, 0, 1);
    found("(|a)*", "a", 1, 0, 1, 0, 1, 0, 1);
    found("(|a)+", "a", 1, 0, 1, 0, 1, 0, 1);
    found("(|a)*?", "a", 1, 0, 0, 0, 0, -1, -1);
    found("(a*)*", "aa", 0, 0, 2, 0, 2, 0, 2);
    found("(a*)+b", "b", 0, 0, 1, 0, 1, 0, 0);
    found("(?:(a)|(b?))*c", "ac", 0, 0, 2, 0, 2, 0, 1, -1, -1);
  }

  /** "a quantifier one more round first (with ? none more first)"; "SEQS from the left". */
  private static void roundsFirstOrLast() {
    found("a*", "aaa", 1, 0, 3);
    found("a*?", "aaa", 1, 1, 1);
    found("a+?", "aaa", 1, 0, 1);
    found("a??", "aaa", 1, 0, 0);
    found("a?", "aaa", 1, 0, 1);
    found("a{2}", "aaa", 1, 0, 2);
    found("a{1,2}", "aaa", 1, 0, 2);
    found("a{1,2}?", "aaa", 1, 0, 1);
    found("a{1,}", "aaa", 1, 0, 3);
    found("a{1,}?", "aaa", 1, 0, 1);
    found("a*?b", "aab", 1, 0, 3);
    found("(a*)(a*)", "aa", 1, 0, 2, 0, 2, 0, 2, 2, 2);
    found("(a*?)(a*)", "aa", 1, 0, 2, 0, 2, 0, 0, 0, 2);
    found("a|aa", "aa", 1, 0, 1);
    found("aa|a", "aa", 1, 0, 2);
    found("|a", "a", 1, 0, 0);
    found("a|", "a", 1, 0, 1);
    found("a|", "b", 1, 0, 0);
    found("(?:a|b|)c", "c", 1, 0, 1);
  }

  /** "with + as the greedy one alone would, without going back into it". */
  private static void withoutGoingBack() {
    found("a*+a", "aaa", 2, 0, -1);
    found("a?+a", "a", 2, 0, -1);
    found("a?+a", "aa", 1, 0, 2);
    found("a{1,2}+a", "aa", 1, 0, -1);
    found("a{1,2}+a", "aaa", 1, 0, 3);
    found("(?:a|ab)++c", "abc", 1, 0, -1);
    found("(?:ab|a)++c", "abc", 1, 0, 3);
    found("(a|ab)?+bc", "abc", 0, 0, 3, 0, 3, 0, 1);
    found("(a)*+b", "aab", 0, 0, 3, 0, 3, 1, 2);
    found("(?:a*+b)*", "aabab", 0, 0, 5);
    found("a{2}+", "aa", 0, 0, 2);
    found("a{0}+b", "b", 0, 0, 1);
    found("(?:a*+)*b", "aab", 0, 0, 3);
    found("(a?)*+", "", 0, 0, 0, 0, 0, -1, -1);
    found("(?:|a){1}+b", "ab", 1, 0, -1);
    found("(?:|a){1}+b", "ab", 2, 0, 2);
    found("(?:|a)?+b", "ab", 1, 0, -1);
    found("(?:|a){0,1}b", "ab", 1, 0, 2);
    found("(?:(a*+)b)*c", "aabbabc", 0, 0, 7, 0, 7, 4, 5);
    found("(?:(?=(a+))a*+b?)*c", "aabac", 0, 0, 5, 0, 5, 3, 4);
    found("((?=(.))(?:a|b++)*?)*", "abb", 0, 0, 3, 0, 3, 1, 3, 1, 2);
  }

  /** "lookahead without going back into it (its GROUPS stay, of (?! none)". */
  private static void lookaheads() {
    found("(?=(a+))a", "aa", 1, 0, 1, 0, 1, 0, 2);
    found("(?=(a|ab))ab", "ab", 1, 0, 2, 0, 2, 0, 1);
    found("(?!(a))b", "b", 1, 0, 1, 0, 1, -1, -1);
    found("(?!(a)b)a", "ac", 1, 0, 1, 0, 1, -1, -1);
    found("(?!a)", "a", 1, 0, -1);
    found("(?!a)", "a", 1, 1, 1);
    found("(?=)", "", 1, 0, 0);
    found("(?!)", "", 1, 0, -1);
    found("a(?=$)", "aa", 2, 0, 2);
    found("a(?=b)", "ab", 0, 0, -1);
    found("(?=(a)|b)\\w", "b", 0, 0, 1, 0, 1, -1, -1);
    found("(?:(?=(a))\\w)*", "aab", 1, 0, 2, 0, 2, 1, 2);
  }

  /** {n} {n,} {n,m}: one round less than n is none, one more than m stays. */
  private static void timesAtLeastAndMost() {
    for (int have = 0; have <= 22; have++) {
      String text = "a".repeat(have);
      found("a{20}", text, 1, 0, have < 20 ? -1 : 20);
      found("a{3}", text, 1, 0, have < 3 ? -1 : 3);
      found("a{3,}", text, 1, 0, have < 3 ? -1 : have);
      found("a{3,5}", text, 1, 0, have < 3 ? -1 : Math.min(have, 5));
      found("a{0,20}", text, 0, 0, have > 20 ? -1 : have);
      found("a{0}", text, 1, 0, 0);
      found("a{0}", text, 0, 0, have == 0 ? 0 : -1);
      found("a{2,2}", text, 0, 0, have == 2 ? 2 : -1);
    }
  }

  private static void replaces(String pattern, String text, String by, int n, String want) {
    LibraryDesk x = desk(pattern, text);
    Check.tape(x, by);
    Check.due("<" + pattern + "> in <" + text + ">", () -> x.replace(0, 1), n);
    Check.same("replaced <" + pattern + "> in <" + text + ">", Check.textOf(x, 1), want);
    Check.due(() -> x.count(0), 0);
    Check.due(() -> x.count(3), -1);
  }

  /** "All MATCHES": none, of an empty TEXT, at the end. */
  private static void replacedNothing() {
    replaces("a", "", "x", 0, "");
    replaces("a", "bc", "x", 0, "bc");
    replaces("", "", "x", 1, "x");
    replaces("^", "", "x", 1, "x");
    replaces("$", "ab", "x", 1, "abx");
    replaces("^", "ab", "x", 1, "xab");
    replaces("a", "a", "", 1, "");
    replaces("\\b", "ab c", "|", 4, "|ab| |c|");
    replaces("^a", "aa", "", 1, "a");
  }

  /** "each behind the one before (one that took nothing: one byte further, which stays)". */
  private static void replacedFurther() {
    replaces("", "ab", "-", 3, "-a-b-");
    replaces("a*", "baac", "x", 4, "xbxxcx");
    replaces("a*?", "aa", "x", 3, "xaxax");
    replaces("a??b?", "ab", "x", 3, "xaxx");
    replaces("aa", "aaaaa", "x", 2, "xxa");
    replaces("(?=a)", "aa", "x", 2, "xaxa");
    replaces("a|(?=b)", "ab", "x", 2, "xxb");
    replaces(".", "a\nb", "x", 2, "x\nx");
  }

  /** "$ and a digit is that GROUP (nothing if none) and $$ $"; "another byte behind $, or none: .. its PLACE". */
  private static void marks() {
    replaces("(a)|(b)", "ab", "<$1$2$0$9$3>", 2, "<aa><bb>");
    replaces("a", "aa", "$$", 2, "$$");
    replaces("a", "a", "$$1$$$0", 1, "$1$a");
    replaces("(a)(b)?", "a", "$1$2$10", 1, "aa0");
    LibraryDesk x = desk("a", "aab");
    Check.broken(x, "$", () -> x.replace(0, 1), 1);
    Check.broken(x, "x$", () -> x.replace(0, 1), 2);
    Check.broken(x, "$$$", () -> x.replace(0, 1), 3);
    for (int b = 0; b < 256; b++) {
      if ("$0123456789".indexOf(b) < 0) {
        Check.broken(x, "$" + (char) b, () -> x.replace(0, 1), 1);
        Check.broken(x, "$$$1x$" + (char) b + "$", () -> x.replace(0, 1), 6);
      }
    }
    LibraryDesk y = desk("z", "aab");
    Check.broken(y, "$", () -> y.replace(0, 1), 1);
  }

  /** "(.. for replace of at most 300, ahead of what is wrong with $)"; full, if more than 4000 bytes are due. */
  private static void longReplaced() {
    LibraryDesk x = desk("a", "a".repeat(300));
    Check.tape(x, "1234567890123");
    Check.due(() -> x.replace(0, 1), 300);
    Check.due(() -> x.text(1, 11, 0, 0), 3900);
    x.text(1, 12, 301, 0);
    Check.tape(x, "$");
    Check.beyond(x, () -> x.replace(0, 1));
    Check.due(() -> x.count(3), -1);
    Check.due(() -> x.count(0), 0);
    Check.tape(x, "");
    Check.beyond(x, () -> x.replace(0, 1));
    LibraryDesk y = desk("a", "a".repeat(300));
    Check.tape(y, "12345678901234");
    Check.state(y, () -> y.replace(0, 1));
    Check.due(() -> y.count(0), 0);
    Check.due(() -> y.count(3), -1);
    LibraryDesk z = desk("a", "a" + "b".repeat(200));
    Check.tape(z, "x".repeat(3801));
    Check.state(z, () -> z.replace(0, 1));
    Check.tape(z, "x".repeat(3800));
    Check.due(() -> z.replace(0, 1), 1);
    Check.due(() -> z.text(1, 11, 0, 0), 4000);
    LibraryDesk w = desk("a", "b".repeat(200) + "a");
    Check.tape(w, "x".repeat(3801));
    Check.state(w, () -> w.replace(0, 1));
    Check.tape(w, "x".repeat(3800));
    Check.due(() -> w.replace(0, 1), 1);
    LibraryDesk v = desk("(b+)a", "b".repeat(200) + "a");
    Check.tape(v, "$1".repeat(21));
    Check.state(v, () -> v.replace(0, 1));
    Check.tape(v, "$1".repeat(20));
    Check.due(() -> v.replace(0, 1), 1);
    Check.due(() -> v.text(1, 11, 0, 0), 4000);
    LibraryDesk u = desk("q", "a".repeat(300));
    Check.tape(u, "x".repeat(4000));
    Check.still(u, () -> u.replace(0, 1), 0);
  }

  /** "(replace() leaves it)". */
  private static void replaceLeavesGroups() {
    LibraryDesk x = desk("(b)", "abc");
    x.match(0, 1, 2, 0);
    Check.tape(x, "<$1>");
    Check.due(() -> x.replace(0, 1), 1);
    Check.due(() -> x.group(1, 0), 1);
    Check.due(() -> x.group(0, 1), 2);
    x.text(1, 12, 0, 0);
    Check.due(() -> x.group(1, 1), 2);
    LibraryDesk y = desk("(b)", "abc");
    Check.tape(y, "x");
    Check.due(() -> y.replace(0, 1), 1);
    Check.due(() -> y.group(0, 0), -1);
  }

  /** "$ and a digit is that GROUP": $0 is all of it, $9 the ninth one; one digit alone belongs to the $. */
  private static void replacedByNineGroups() {
    replaces("(a)(b)(c)(d)(e)(f)(g)(h)(i)", "-abcdefghi-", "$9$8$7$6$5$4$3$2$1|$0|$10|$99|$$9", 1, "-ihgfedcba|abcdefghi|a0|i9|$9-");
    replaces("(a)|b", "ab", "<$0$1$2$9>", 2, "<aa><b>");
  }

  private static String seen(LibraryDesk x, int p, int t) {
    StringBuilder b = new StringBuilder();
    for (int how = 0; how <= 2; how++) {
      int h = how;
      b.append(Check.of(() -> x.match(p, t, h, 1))).append(' ');
      for (int i = 0; i < 20; i++) {
        b.append(x.group(i / 2, i % 2)).append(',');
      }
    }
    return b.toString();
  }

  /** A PATTERN is read anew, whatever the one before it was, and where that was broken or too heavy; those that are there stay. */
  private static void oneBehindTheOther() {
    String[] good = {"(a*?)(b+)", "(a*)b{0,1}?", "[a-c]+x?", "[^b]", "[x-z]*+", "(?:(a)|(b)|c)*", "(?=(ab))a", "(?!b)\\w{2}", "((((a))))", "^.+$|", "\\bc\\b", "a{2,3}?|b{1}"};
    String[] broken = {"", "(?=a", "(?!(a", "[a-z", "((((((((((", "a{3}{", "(a)(b)(c)(d)(e)(f)(g)(h)(i)(", "(a++)++(", "[^x-z]{20}".repeat(20) + "a"};
    String[] texts = {"", "ab", "aabbc", "xyz", "c aab"};
    for (String second : good) {
      for (String text : texts) {
        LibraryDesk y = new LibraryDesk();
        y.make(18, 0, 0);
        Check.tape(y, second);
        y.pattern();
        Check.text(y, text);
        String want = seen(y, 1, 2);
        for (String first : good) {
          for (String fault : broken) {
            LibraryDesk x = new LibraryDesk();
            Check.tape(x, first);
            Check.due(() -> x.pattern(), 0);
            Check.tape(x, fault);
            Check.same(fault, fault.isEmpty() || Check.of(() -> x.pattern()).startsWith("throws."), true);
            Check.tape(x, second);
            Check.due(() -> x.pattern(), 1);
            Check.text(x, text);
            Check.same("<" + second + "> behind <" + first + "> and <" + fault + "> in <" + text + ">", seen(x, 1, 2), want);
          }
        }
      }
    }
  }
}
