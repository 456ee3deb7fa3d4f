/** The edges that the document names of TEXTS and FORMS (promises 8 and 11). */
public final class EdgeTextTest {
  private static final int LOW = Integer.MIN_VALUE;
  private static final int HIGH = Integer.MAX_VALUE;

  public static void main(String[] args) {
    fullTexts();
    placesWhereItComes();
    partsThatGo();
    partsInstead();
    bytesAt();
    placesWhereTheTapeStands();
    lastPlaces();
    differences();
    hashesWrap();
    sizes();
    turnedRound();
    lettersAtBothEnds();
    letters();
    blanks();
    timesItself();
    emptyTexts();
    checksums();
    base64Out();
    outIsWritten();
    base64In();
    base64Faults();
    flagsOfFields();
    widths();
    cuts();
    lettersOfFields();
    faultsAreAheadOfElements();
    elementsLeft();
    textsThatAreNone();
    sizeOfOut();
    numbersShown();
    bytesShown();
    filledUp();
    fieldsByThemselves();
    noughtsAheadOfEachDigit();
    longForms();
    Check.end("EdgeTextTest");
  }

  private static LibraryDesk text(String s) {
    LibraryDesk x = new LibraryDesk();
    Check.text(x, s);
    return x;
  }

  private static void is(LibraryDesk x, String want) {
    Check.same("TEXT", Check.textOf(x, 0), want);
  }

  private static long tell(LibraryDesk x, String tape, int op, int a, int b) {
    Check.tape(x, tape);
    return x.text(0, op, a, b);
  }

  /** "at most 4000 bytes (0 .. 255; else full)", by each op by which some come. */
  private static void fullTexts() {
    LibraryDesk x = text("a".repeat(3999));
    Check.state(x, () -> tell(x, "zz", 0, 0, 0));
    Check.state(x, () -> tell(x, "zz", 1, 3999, 0));
    Check.state(x, () -> tell(x, "zzz", 3, 0, 1));
    Check.beyond(x, () -> tell(x, "zz", 1, 4000, 0));
    Check.beyond(x, () -> tell(x, "zz", 3, 0, 4000));
    Check.due(() -> tell(x, "z", 0, 0, 0), 4000);
    Check.state(x, () -> tell(x, "z", 0, 0, 0));
    Check.state(x, () -> tell(x, "z", 1, 0, 0));
    Check.still(x, () -> tell(x, "", 0, 0, 0), 4000);
    Check.still(x, () -> tell(x, "", 1, 4000, 0), 4000);
    Check.due(() -> tell(x, "yy", 3, 3998, 4000), 4000);
    Check.state(x, () -> tell(x, "yyy", 3, 3998, 4000));
    Check.still(x, () -> x.text(0, 17, 1, 0), 4000);
    Check.state(x, () -> x.text(0, 17, 2, 0));
    Check.due(() -> x.text(0, 12, 2000, 0), 2000);
    Check.due(() -> x.text(0, 17, 2, 0), 4000);
    Check.due(() -> x.text(0, 12, 2001, 0), 2001);
    Check.state(x, () -> x.text(0, 17, 2, 0));
    Check.due(() -> x.text(0, 12, 1, 0), 1);
    Check.due(() -> x.text(0, 17, 4000, 0), 4000);
  }

  /** 1: "at place a (0 .. size, else beyond)". */
  private static void placesWhereItComes() {
    LibraryDesk x = text("abc");
    for (int place : new int[] {-1, 4, LOW, HIGH}) {
      Check.beyond(x, () -> tell(x, "z", 1, place, 0));
      Check.beyond(x, () -> tell(x, "", 1, place, 0));
    }
    Check.due(() -> tell(x, "z", 1, 3, 0), 4);
    Check.due(() -> tell(x, "yy", 1, 0, 0), 6);
    is(x, "yyabcz");
  }

  /** 2: "a .. b - 1 go (0 <= a <= b <= size, else beyond)". */
  private static void partsThatGo() {
    LibraryDesk x = text("abcd");
    int[][] bad = {{-1, 0}, {-1, 2}, {2, 1}, {0, 5}, {5, 5}, {LOW, 0}, {0, HIGH}, {HIGH, HIGH}};
    for (int[] p : bad) {
      Check.beyond(x, () -> x.text(0, 2, p[0], p[1]));
    }
    Check.still(x, () -> x.text(0, 2, 0, 0), 4);
    Check.still(x, () -> x.text(0, 2, 4, 4), 4);
    Check.due(() -> x.text(0, 2, 3, 4), 3);
    Check.due(() -> x.text(0, 2, 0, 1), 2);
    is(x, "bc");
    Check.due(() -> x.text(0, 2, 0, 2), 0);
    Check.beyond(x, () -> x.text(0, 2, 0, 1));
  }

  /** 3: "it comes there instead", with the same places. */
  private static void partsInstead() {
    LibraryDesk x = text("abcd");
    int[][] bad = {{-1, 0}, {-1, 2}, {2, 1}, {0, 5}, {5, 5}, {LOW, 0}, {0, HIGH}, {HIGH, HIGH}};
    for (int[] p : bad) {
      Check.beyond(x, () -> tell(x, "z", 3, p[0], p[1]));
    }
    Check.due(() -> tell(x, "z", 3, 4, 4), 5);
    Check.due(() -> tell(x, "yy", 3, 0, 1), 6);
    Check.due(() -> tell(x, "", 3, 2, 4), 4);
    is(x, "yydz");
    Check.due(() -> tell(x, "w", 3, 0, 4), 1);
    is(x, "w");
  }

  /** 5, 6: "the byte at a; b (its lowest 8 bits) instead (beyond): what was". */
  private static void bytesAt() {
    LibraryDesk x = text("a\u00ff");
    for (int place : new int[] {-1, 2, LOW, HIGH}) {
      Check.beyond(x, () -> x.text(0, 5, place, 0));
      Check.beyond(x, () -> x.text(0, 6, place, 0));
    }
    Check.still(x, () -> x.text(0, 5, 0, 0), 'a');
    Check.still(x, () -> x.text(0, 5, 1, 0), 255);
    Check.due(() -> x.text(0, 6, 1, 256 + 'b'), 255);
    Check.due(() -> x.text(0, 6, 0, -1), 'a');
    Check.still(x, () -> x.text(0, 5, 0, 0), 255);
    is(x, "\u00ffb");
    LibraryDesk y = text("");
    Check.beyond(y, () -> y.text(0, 5, 0, 0));
    Check.beyond(y, () -> y.text(0, 6, 0, 0));
  }

  /** 7: "the first place from a on (-: from 0) where THE TAPE stands (nothing stands at each place 0 .. size)". */
  private static void placesWhereTheTapeStands() {
    LibraryDesk x = text("abab");
    Object[][] dues = {{"ab", 0, 0}, {"ab", 1, 2}, {"ab", 2, 2}, {"ab", 3, -1}, {"ab", -1, 0}, {"ab", LOW, 0}, {"ab", HIGH, -1}, {"abab", 0, 0}, {"abab", 1, -1}, {"ababa", 0, -1},
        {"b", 3, 3}, {"b", 4, -1}, {"", 0, 0}, {"", 3, 3}, {"", 4, 4}, {"", 5, -1}, {"", -7, 0}, {"", HIGH, -1}, {"c", 0, -1}};
    for (Object[] d : dues) {
      Check.still(x, () -> tell(x, (String) d[0], 7, (Integer) d[1], 0), (Integer) d[2]);
    }
    LibraryDesk y = text("");
    Check.still(y, () -> tell(y, "", 7, 0, 0), 0);
    Check.still(y, () -> tell(y, "", 7, 1, 0), -1);
    Check.still(y, () -> tell(y, "a", 7, 0, 0), -1);
  }

  /** 8: "the last one up to a, -1 without". */
  private static void lastPlaces() {
    LibraryDesk x = text("abab");
    Object[][] dues = {{"ab", HIGH, 2}, {"ab", 2, 2}, {"ab", 1, 0}, {"ab", 0, 0}, {"ab", -1, -1}, {"ab", LOW, -1}, {"b", 0, -1}, {"b", 3, 3}, {"abab", 4, 0}, {"ababa", 4, -1},
        {"", 9, 4}, {"", 4, 4}, {"", 3, 3}, {"", 0, 0}, {"", -1, -1}, {"c", 4, -1}};
    for (Object[] d : dues) {
      Check.still(x, () -> tell(x, (String) d[0], 8, (Integer) d[1], 0), (Integer) d[2]);
    }
    LibraryDesk y = text("");
    Check.still(y, () -> tell(y, "", 8, 5, 0), 0);
    Check.still(y, () -> tell(y, "a", 8, 5, 0), -1);
  }

  /** 9: "the first byte that differs from that of TEXT a less that one, without: size less its size". */
  private static void differences() {
    LibraryDesk x = text("ab\u00ff");
    String[] others = {"ab\u00ff", "ab\0", "", "abc", "ab", "ab\u00ffxyz", "b"};
    int[] dues = {0, 255, 3, 255 - 'c', 1, -3, -1};
    for (int i = 0; i < others.length; i++) {
      int o = Check.text(x, others[i]);
      int want = dues[i];
      Check.still(x, () -> x.text(0, 9, o, 0), want);
      Check.still(x, () -> x.text(o, 9, 0, 0), -want);
    }
    Check.still(x, () -> x.text(0, 9, 0, 0), 0);
  }

  /** 10: "as list 25", bytes without sign. */
  private static void hashesWrap() {
    LibraryDesk x = text("\u00ff".repeat(9));
    int h = 1;
    for (int i = 0; i < 9; i++) {
      h = (int) (31L * h + 255);
    }
    int want = h;
    Check.still(x, () -> x.text(0, 10, 0, 0), want);
  }

  /** 12: "just a bytes (0 .. 4000), cut or with 0s"; 11: size. */
  private static void sizes() {
    LibraryDesk x = text("abc");
    for (int n : new int[] {-1, 4001, LOW, HIGH}) {
      Check.illegal(x, () -> x.text(0, 12, n, 0));
    }
    Check.still(x, () -> x.text(0, 12, 3, 0), 3);
    Check.due(() -> x.text(0, 12, 2, 0), 2);
    Check.due(() -> x.text(0, 12, 4, 0), 4);
    is(x, "ab\0\0");
    Check.due(() -> x.text(0, 12, 4000, 0), 4000);
    Check.still(x, () -> x.text(0, 11, 0, 0), 4000);
    Check.still(x, () -> x.text(0, 5, 3999, 0), 0);
    Check.due(() -> x.text(0, 12, 0, 0), 0);
    Check.due(() -> x.text(0, 12, 1, 0), 1);
    is(x, "\0");
  }

  /** 13, 14: "a .. z great, A .. Z small", and no byte beside these. */
  private static void letters() {
    StringBuilder all = new StringBuilder();
    StringBuilder great = new StringBuilder();
    StringBuilder small = new StringBuilder();
    for (int b = 0; b < 256; b++) {
      all.append((char) b);
      great.append((char) (b >= 97 && b <= 122 ? b - 32 : b));
      small.append((char) (b >= 65 && b <= 90 ? b + 32 : b));
    }
    LibraryDesk x = text(all.toString());
    Check.due(() -> x.text(0, 13, 0, 0), 256);
    is(x, great.toString());
    LibraryDesk y = text(all.toString());
    Check.due(() -> y.text(0, 14, 0, 0), 256);
    is(y, small.toString());
  }

  /** 15: "blanks (9 .. 13, 32) at both ends go". */
  private static void blanks() {
    for (int b = 0; b < 256; b++) {
      String c = "" + (char) b;
      boolean blank = b >= 9 && b <= 13 || b == 32;
      LibraryDesk x = text(c + "a" + c + "b" + c);
      Check.due("byte " + b, () -> x.text(0, 15, 0, 0), blank ? 3 : 5);
      is(x, blank ? "a" + c + "b" : c + "a" + c + "b" + c);
    }
    LibraryDesk y = text("\t\n\u000b\f\r ");
    Check.due(() -> y.text(0, 15, 0, 0), 0);
  }

  /** 17: "a times itself (0 .. 4000)". */
  private static void timesItself() {
    LibraryDesk x = text("ab");
    for (int n : new int[] {-1, 4001, LOW, HIGH}) {
      Check.illegal(x, () -> x.text(0, 17, n, 0));
    }
    Check.state(x, () -> x.text(0, 17, 2001, 0));
    Check.state(x, () -> x.text(0, 17, 4000, 0));
    Check.still(x, () -> x.text(0, 17, 1, 0), 2);
    Check.due(() -> x.text(0, 17, 3, 0), 6);
    is(x, "ababab");
    Check.due(() -> x.text(0, 17, 0, 0), 0);
    Check.still(x, () -> x.text(0, 17, 4000, 0), 0);
    Check.illegal(x, () -> x.text(0, 17, 4001, 0));
  }

  /** What an empty TEXT answers. */
  private static void emptyTexts() {
    LibraryDesk x = text("");
    for (int op : new int[] {2, 4, 11, 13, 14, 15, 16, 18, 19}) {
      Check.still(x, () -> x.text(0, op, 0, 0), 0);
    }
    Check.still(x, () -> x.text(0, 10, 0, 0), 1);
    Check.still(x, () -> tell(x, "", 20, 0, 0), 0);
    Check.still(x, () -> tell(x, "", 3, 0, 0), 0);
    Check.beyond(x, () -> x.word(0));
  }

  /** 18: "CRC-32 (as of zip, an int)". */
  private static void checksums() {
    Check.due(() -> text("123456789").text(0, 18, 0, 0), 0xCBF43926);
    Check.due(() -> text("a").text(0, 18, 0, 0), 0xE8B7BE43);
    Check.due(() -> text("\u00ff").text(0, 18, 0, 0), 0xFF000000);
  }

  /** 19: "OUT is its BASE64 (A-Z a-z 0-9 + /, with =): size of OUT"; 16: "OUT is it". */
  private static void base64Out() {
    String[][] pairs = {{"f", "Zg=="}, {"fo", "Zm8="}, {"foo", "Zm9v"}, {"foob", "Zm9vYg=="}, {"\u00fb\u00ef\u00be", "++++"}, {"\u00ff\u00ff\u00ff", "////"}, {"\0\0\0", "AAAA"}, {"\0", "AA=="}};
    for (String[] p : pairs) {
      LibraryDesk x = text(p[0]);
      Check.due(() -> x.text(0, 19, 0, 0), p[1].length());
      Check.same("OUT", Check.out(x), p[1]);
      Check.due(() -> tell(x, p[1], 20, 0, 0), p[0].length());
      is(x, p[0]);
    }
    LibraryDesk y = text("a".repeat(4000));
    Check.due(() -> y.text(0, 19, 0, 0), 5336);
    Check.due(() -> y.text(0, 16, 0, 0), 4000);
    Check.due(() -> y.count(1), 4000);
  }

  /** 20: "it is what BASE64 THE TAPE is: size". */
  private static void base64In() {
    LibraryDesk x = text("old");
    Check.due(() -> tell(x, "A".repeat(4000), 20, 0, 0), 3000);
    Check.due(() -> tell(x, "A".repeat(3998) + "==", 20, 0, 0), 2998);
    Check.due(() -> tell(x, "A".repeat(3999) + "=", 20, 0, 0), 2999);
    Check.due(() -> tell(x, "", 20, 0, 0), 0);
    Check.due(() -> x.count(3), -1);
  }

  /** 20: "(other bytes, no whole fours, = elsewhere, bits that are left not 0)", PLACE "of the first four with a fault; its length". */
  private static void base64Faults() {
    LibraryDesk x = text("old");
    for (int n = 1; n < 12; n++) {
      if (n % 4 != 0) {
        Check.broken(x, "A".repeat(n), () -> x.text(0, 20, 0, 0), n);
        Check.broken(x, "*".repeat(n), () -> x.text(0, 20, 0, 0), n);
      }
    }
    Check.broken(x, "A".repeat(3999), () -> x.text(0, 20, 0, 0), 3999);
    String signs = "ABCDEFGHIJKLMNOPQRSTUVWXYZabcdefghijklmnopqrstuvwxyz0123456789+/";
    for (int b = 0; b < 256; b++) {
      String c = "" + (char) b;
      for (int at = 0; at < 4; at++) {
        String four = "AAAA".substring(0, at) + c + "AAAA".substring(at + 1);
        if (signs.indexOf(b) < 0) {
          Check.broken(x, four + "AAAA", () -> x.text(0, 20, 0, 0), 0);
        }
        if (signs.indexOf(b) < 0 && !(b == '=' && at == 3)) {
          Check.broken(x, "AAAA" + four, () -> x.text(0, 20, 0, 0), 4);
        }
      }
    }
    Object[][] faults = {{"====", 0}, {"A===", 0}, {"AA=A", 0}, {"A=A=", 0}, {"=AAA", 0}, {"AAAAA===", 4}, {"AA==AAAA", 0}, {"AAA=AAAA", 0}, {"AAAAAA==AA==", 4}};
    for (Object[] f : faults) {
      Check.broken(x, (String) f[0], () -> x.text(0, 20, 0, 0), (Integer) f[1]);
    }
    LibraryDesk y = text("");
    for (int v = 0; v < 64; v++) {
      String two = "AAAAA" + signs.charAt(v) + "==";
      String three = "AAAAAA" + signs.charAt(v) + "=";
      if (v % 16 == 0) {
        Check.due(() -> tell(y, two, 20, 0, 0), 4);
      } else {
        Check.broken(y, two, () -> y.text(0, 20, 0, 0), 4);
      }
      if (v % 4 == 0) {
        Check.due(() -> tell(y, three, 20, 0, 0), 5);
      } else {
        Check.broken(y, three, () -> y.text(0, 20, 0, 0), 4);
      }
    }
  }

  // FORM

  private static LibraryDesk row(int... elements) {
    LibraryDesk x = Check.row(elements);
    Check.text(x, "text");
    return x;
  }

  private static void shows(String tape, String want, int... elements) {
    LibraryDesk x = row(elements);
    Check.tape(x, tape);
    Check.due(tape, () -> x.form(0), want.length());
    Check.same(tape, Check.out(x), want);
  }

  private static void breaks(String tape, int place) {
    LibraryDesk x = row(1, 1, 1);
    Check.broken(x, tape, () -> x.form(0), place);
  }

  /** "{- | 0 | + | blank | ,}"; "a flag twice: its second"; "other flags than - with c b s, + blank , with x o". */
  private static void flagsOfFields() {
    String flags = "-0+ ,";
    String clashes = "-0,0-,+ , +";
    for (char f : flags.toCharArray()) {
      for (char g : flags.toCharArray()) {
        if (f == g) {
          String others = "+ ,-".replace("" + f, "");
          breaks("a%" + f + g + "5d", 3);
          breaks("a%" + f + others + g + "5d", 3 + others.length());
        } else if (f != ',' && g != ',' && clashes.contains("" + f + g)) {
          breaks("a%" + f + g + "5d", 5);
        } else {
          LibraryDesk x = row(1);
          Check.tape(x, "%" + f + g + "5d");
          Check.due("%" + f + g + "5d", () -> x.form(0), 5);
        }
      }
      for (char letter : "dxocbs".toCharArray()) {
        boolean may = letter == 'd' || f == '-' || f == '0' && (letter == 'x' || letter == 'o');
        if (may) {
          LibraryDesk x = row(1);
          Check.tape(x, "%" + f + "5" + letter);
          Check.due("%" + f + "5" + letter, () -> x.form(0), 5);
        } else {
          breaks("%" + f + "5" + letter, 3);
        }
      }
      breaks("%" + f, 2);
      breaks("%" + f + "%", 2);
    }
  }

  /** "[width 1 .. 99, not beginning with 0]"; "- or 0 without width" is not so. */
  private static void widths() {
    shows("%1d", "1", 1);
    shows("%9d", "        1", 1);
    shows("%10d", "         1", 1);
    shows("%99d", " ".repeat(98) + "1", 1);
    shows("%-99d|", "1" + " ".repeat(98) + "|", 1);
    shows("%09d", "000000001", 1);
    breaks("%100d", 3);
    breaks("%990d", 3);
    breaks("%00d", 2);
    breaks("%005d", 2);
    breaks("%-d", 2);
    breaks("%0d", 2);
    breaks("%-x", 2);
    breaks("%0o", 2);
    breaks("%-c", 2);
    breaks("%-b", 2);
    breaks("%-s", 2);
    breaks("%-.1s", 4);
    breaks("%+-d", 3);
    breaks("%5", 2);
    breaks("%55", 3);
    breaks("%5-d", 2);
    breaks("%5+d", 2);
    breaks("%5%", 2);
    breaks("%55%", 3);
    shows("%+d% d%,d", "+1 11", 1, 1, 1);
  }

  /** "[. and one or two digits]"; ". with others than b, s" is not so; ".n cuts b, s to n". */
  private static void cuts() {
    shows("%.0s|%.1s|%.4s|%.5s|%.99s|%.00s|%.01s", "|t|text|text|text||t", 1, 1, 1, 1, 1, 1, 1);
    shows("%.0b|%.4b|%.5b|%.9b|%.4b", "|true|false|false|fals", 1, 7, 0, 0, 0);
    shows("%5.1s|%-5.1s|%1.3s|%3.3s", "    t|t    |tex|tex", 1, 1, 1, 1);
    breaks("%.", 2);
    breaks("%.s", 2);
    breaks("%.-1s", 2);
    breaks("%.1", 3);
    breaks("%.12", 4);
    breaks("%.123s", 4);
    breaks("%..1s", 2);
    breaks("%.1.s", 3);
    breaks("%5.", 3);
    breaks("%.1d", 3);
    breaks("%.12x", 4);
    breaks("%.1o", 3);
    breaks("%.1c", 3);
    breaks("%.1%", 3);
    breaks("%-5.1d", 5);
  }

  /** "one of d x o c b s %"; "anything between % and %: that FIELD's letter". */
  private static void lettersOfFields() {
    for (int b = 0; b < 256; b++) {
      if ("dxocbs%-0+ ,.123456789".indexOf(b) < 0) {
        breaks("a%" + (char) b, 2);
        breaks("%5" + (char) b, 2);
        breaks("%-5" + (char) b, 3);
        breaks("%.1" + (char) b, 3);
      }
    }
    breaks("%", 1);
    breaks("%%%", 3);
    breaks("%d%", 3);
    shows("%%", "%");
    shows("%%%%", "%%");
    shows("%%d", "%d");
  }

  /** "Not so: UnsupportedOperationException (ahead of all ELEMENTS)". */
  private static void faultsAreAheadOfElements() {
    LibraryDesk x = row();
    Check.broken(x, "%d%", () -> x.form(0), 3);
    Check.broken(x, "%s%q", () -> x.form(0), 3);
    LibraryDesk y = row(22, 0);
    Check.broken(y, "%s%5", () -> y.form(0), 4);
    Check.broken(y, "%d%s%5", () -> y.form(0), 6);
    Check.broken(y, "x".repeat(3999) + "%", () -> y.form(0), 4000);
  }

  /** "from the next ELEMENT of LIST or VIEW a (none left: beyond)"; "% none". */
  private static void elementsLeft() {
    LibraryDesk x = row(7, 8, 9);
    x.view(0, 0, 1, 2);
    Check.tape(x, "%d%d%d%%");
    Check.due(() -> x.form(0), 4);
    Check.tape(x, "%d%d%d%d");
    Check.beyond(x, () -> x.form(0));
    Check.tape(x, "%d");
    Check.due(() -> x.form(2), 1);
    Check.same("OUT", Check.out(x), "8");
    Check.tape(x, "%d%d");
    Check.beyond(x, () -> x.form(2));
    Check.tape(x, "abc");
    Check.due(() -> x.form(2), 3);
    LibraryDesk y = row();
    Check.tape(y, "%c");
    Check.beyond(y, () -> y.form(0));
    Check.tape(y, "");
    Check.still(y, () -> y.form(0), 0);
  }

  /** "s: TEXT with that number (NoSuchElementException, ClassCastException)", ahead of what follows. */
  private static void textsThatAreNone() {
    for (int o : new int[] {-1, 2, 23, 24, LOW, HIGH}) {
      LibraryDesk x = row(o);
      Check.tape(x, "%s%d");
      Check.none(x, () -> x.form(0));
    }
    LibraryDesk x = row(0);
    Check.tape(x, "%s%d");
    Check.cast(x, () -> x.form(0));
    LibraryDesk y = row(5, 22, 0);
    Check.tape(y, "%d%s%s");
    Check.none(y, () -> y.form(0));
    LibraryDesk z = row(5, 1);
    Check.tape(z, "%d%s%s");
    Check.beyond(z, () -> z.form(0));
  }

  /** "so as soon as OUT would have more than 65536" (beyond). */
  private static void sizeOfOut() {
    LibraryDesk x = Check.row(1, 1, 1, 1, 1, 1, 1, 1, 1, 1, 1, 1, 1, 1, 1, 1, 9);
    Check.text(x, "t".repeat(4000));
    String sixteen = "%s".repeat(16);
    Check.tape(x, sixteen + "x".repeat(1536));
    Check.due(() -> x.form(0), 65536);
    Check.due(() -> x.word(65535), (long) 'x' << 56);
    Check.beyond(x, () -> x.word(65536));
    Check.tape(x, sixteen + "x".repeat(1537));
    Check.beyond(x, () -> x.form(0));
    Check.tape(x, sixteen + "x".repeat(1535) + "%%");
    Check.due(() -> x.form(0), 65536);
    Check.tape(x, sixteen + "x".repeat(1536) + "%%");
    Check.beyond(x, () -> x.form(0));
    Check.tape(x, sixteen + "x".repeat(1535) + "%d");
    Check.due(() -> x.form(0), 65536);
    Check.tape(x, sixteen + "x".repeat(1536) + "%d");
    Check.beyond(x, () -> x.form(0));
    Check.tape(x, sixteen + "x".repeat(1527) + "%9d");
    Check.due(() -> x.form(0), 65536);
    Check.tape(x, sixteen + "x".repeat(1528) + "%9d");
    Check.beyond(x, () -> x.form(0));
    Check.tape(x, sixteen + "x".repeat(1536) + "%s");
    Check.none(x, () -> x.form(0));
    Check.tape(x, sixteen + "x".repeat(1537) + "%s");
    Check.beyond(x, () -> x.form(0));
    Check.broken(x, sixteen + "x".repeat(1537) + "%5", () -> x.form(0), 32 + 1537 + 2);
  }

  /** "d: with sign (+: also + above -1; blank: also a blank); , parts thousands; x, o: of the int without sign". */
  private static void numbersShown() {
    shows("%d %d %d", "0 -2147483648 2147483647", 0, LOW, HIGH);
    shows("%+d %+d %+d", "+0 -1 +1", 0, -1, 1);
    shows("% d|% d|% d", " 0|-1| 1", 0, -1, 1);
    shows("%,d %,d %,d %,d %,d", "999 1,000 -1,000 999,999 1,000,000", 999, 1000, -1000, 999999, 1000000);
    shows("%,d %+,d", "-2,147,483,648 +2,147,483,647", LOW, HIGH);
    shows("%x %x %x %x", "0 ffffffff 80000000 7fffffff", 0, -1, LOW, HIGH);
    shows("%o %o %o", "0 37777777777 20000000000", 0, -1, LOW);
    shows("%x %o", "9abc 7", 0x9ABC, 7);
  }

  /** "c: the byte of the lowest 8 bits; b: false for 0, else true; s: the TEXT". */
  private static void bytesShown() {
    shows("%c%c%c%c", "\0\u00ff\u00ff\u0001", 0, 255, -1, 257);
    shows("%b %b %b %b", "false true true true", 0, 1, -1, LOW);
    shows("%s%s", "texttext", 1, 1);
    shows("a\u00e9\0", "a\u00e9\0");
  }

  /** "Width: filled with blanks in front, behind with -, or 0s behind the sign with 0." */
  private static void filledUp() {
    shows("%4d|%4d|%4d", "   1|  -1|12345", 1, -1, 12345);
    shows("%-4d|%-4d|%-4d", "1   |-1  |12345", 1, -1, 12345);
    shows("%04d|%04d|%04d|%05d", "0001|-001|-1234|-1234", 1, -1, -1234, -1234);
    shows("%+04d|%0+4d|% 04d|%0 4d", "+001|-001| 001|-001", 1, -1, 1, -1);
    shows("%-+4d|%+-4d|%- 4d", "+1  |-1  | 1  ", 1, -1, 1);
    shows("%0,9d|%,09d", "-0001,234|00001,234", -1234, 1234);
    shows("%04x|%-4x|%4x|%012o", "00ff|ff  |  ff|037777777777", 255, 255, 255, -1);
    shows("%3c|%-3c|%1c", "  a|a  |a", 'a', 'a', 'a');
    shows("%5b|%-5b|%3b", " true|true |false", 1, 1, 0);
    shows("%5s|%-5s|%4s|%1s", " text|text |text|text", 1, 1, 1, 1);
  }

  /** 4: "turned round", of none, one, an even and an odd number of bytes. */
  private static void turnedRound() {
    for (String s : new String[] {"", "a", "ab", "abc", "abcd", "\u00ff\0\u0080z"}) {
      LibraryDesk x = text(s);
      Check.due(() -> x.text(0, 4, 0, 0), s.length());
      is(x, new StringBuilder(s).reverse().toString());
    }
  }

  /** 13, 14: the first byte and the last one, too. */
  private static void lettersAtBothEnds() {
    LibraryDesk x = text("azZA");
    Check.due(() -> x.text(0, 13, 0, 0), 4);
    is(x, "AZZA");
    Check.due(() -> x.text(0, 14, 0, 0), 4);
    is(x, "azza");
    Check.due(() -> x.text(0, 12, 1, 0), 1);
    Check.due(() -> x.text(0, 13, 0, 0), 1);
    is(x, "A");
  }

  /** 16, 19: "OUT is it", whatever it was: what it had goes; a call that throws leaves it. */
  private static void outIsWritten() {
    LibraryDesk x = text("a long one, which was OUT");
    Check.due(() -> x.text(0, 16, 0, 0), 25);
    Check.due(() -> x.text(0, 12, 1, 0), 1);
    Check.due(() -> x.text(0, 19, 0, 0), 4);
    Check.same("OUT", Check.out(x), "YQ==");
    Check.due(() -> x.text(0, 16, 0, 0), 1);
    Check.same("OUT", Check.out(x), "a");
    Check.due(() -> x.text(0, 19, 0, 0), 4);
    Check.due(() -> x.text(0, 12, 0, 0), 0);
    Check.due(() -> x.text(0, 19, 0, 0), 0);
    Check.due(() -> x.count(1), 0);
    Check.beyond(x, () -> x.word(0));
    LibraryDesk y = row(1);
    Check.text(y, "was OUT");
    Check.due(() -> y.text(2, 16, 0, 0), 7);
    Check.tape(y, "%d");
    Check.due(() -> y.form(0), 1);
    Check.same("OUT", Check.out(y), "1");
    Check.tape(y, "%d%d");
    Check.beyond(y, () -> y.form(0));
    Check.same("OUT", Check.out(y), "1");
    Check.tape(y, "");
    Check.due(() -> y.form(0), 0);
    Check.due(() -> y.count(1), 0);
  }

  /** Flags, width and cut are those of one FIELD, not of the next one. */
  private static void fieldsByThemselves() {
    shows("%5d%d", "    11", 1, 1);
    shows("%-5d%5d%d", "1        11", 1, 1, 1);
    shows("%05d%5d%d", "00001    11", 1, 1, 1);
    shows("%+d%d", "+11", 1, 1);
    shows("% d%d", " 11", 1, 1);
    shows("%,d%d", "1,0001000", 1000, 1000);
    shows("%.1s%s", "ttext", 1, 1);
    shows("%.0b%b", "true", 0, 1);
    shows("%99s%%%d", " ".repeat(95) + "text%1", 1, 1);
    shows("%.10s|%.12s|%.03s|%.10b", "text|text|tex|false", 1, 1, 1, 0);
    LibraryDesk x = Check.row(1, 1, 1, 1);
    Check.text(x, "0123456789abcdefghijk");
    Check.tape(x, "%.9s|%.10s|%.19s|%.20s");
    Check.due(() -> x.form(0), 61);
    Check.same("OUT", Check.out(x), "012345678|0123456789|0123456789abcdefghi|0123456789abcdefghij");
    breaks("%.0d", 3);
    breaks("%.0x", 3);
    breaks("%.0o", 3);
    breaks("%.0c", 3);
    breaks("%.00d", 4);
    breaks("%.0%", 3);
  }

  /** "0s behind the sign with 0", whatever digit the number begins with. */
  private static void noughtsAheadOfEachDigit() {
    for (int v = 0; v <= 9; v++) {
      shows("%05d", "0000" + v, v);
      shows("%05d", v == 0 ? "00000" : "-000" + v, -v);
      shows("%+05d", "+000" + v, v);
      shows("% 05d", " 000" + v, v);
    }
    shows("%05x", "0000f", 15);
    shows("%05o", "00017", 15);
    shows("%08x", "ffffffff", -1);
    shows("%09x", "0ffffffff", -1);
    shows("%012o", "037777777777", -1);
    shows("%011o", "37777777777", -1);
    shows("%,012d", "-0000001,234", -1234);
    shows("%,d|%,d|%,d|%,d", "999|1,000|999,999|-1,000,000", 999, 1000, 999999, -1000000);
    shows("%,d|%,d", "-2,147,483,648|2,147,483,647", LOW, HIGH);
  }

  /** THE TAPE has up to 4000 bytes: the last one of these is looked at, and written, too. */
  private static void longForms() {
    String most = "a".repeat(4000);
    shows(most, most);
    shows(most.substring(1) + "b", most.substring(1) + "b");
    shows(most.substring(2) + "%d", most.substring(2) + "7", 7);
    shows("%%".repeat(2000), "%".repeat(2000));
    breaks(most.substring(1) + "%", 4000);
    breaks(most.substring(2) + "%5", 4000);
    breaks(most.substring(2) + "%y", 3999);
    breaks("%".repeat(3999), 3999);
    LibraryDesk x = row();
    for (String last : new String[] {"%", "%5", "%y", "%-d"}) {
      String tape = "%d" + "a".repeat(3998 - last.length()) + last;
      Check.broken(x, tape, () -> x.form(0), last.length() < 2 || last.equals("%5") ? 4000 : 3999);
    }
  }
}
