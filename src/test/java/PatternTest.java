import java.util.ArrayList;
import java.util.Arrays;
import java.util.List;
import java.util.Random;

/** Promises 9 and 10, beside a matcher that goes back by calling itself. */
public final class PatternTest {
  private interface Then {
    boolean go(int at, int[] groups);
  }

  private static final class TooLong extends RuntimeException {
    private static final long serialVersionUID = 1;
  }

  private static int steps;

  /** A part of a PATTERN, which writes, weighs and matches itself. */
  private abstract static class Part {
    abstract String show();

    abstract long weight();

    abstract boolean match(String t, int at, int[] groups, Then then);

    static void count() {
      if (++steps > 300000) {
        throw new TooLong();
      }
    }
  }

  private static final class Leaf extends Part {
    final String show;
    final java.util.function.IntPredicate fits;

    Leaf(String show, java.util.function.IntPredicate fits) {
      this.show = show;
      this.fits = fits;
    }

    String show() {
      return show;
    }

    long weight() {
      return 1;
    }

    boolean match(String t, int at, int[] groups, Then then) {
      count();
      return at < t.length() && fits.test(t.charAt(at)) && then.go(at + 1, groups);
    }
  }

  private static boolean word(String t, int i) {
    return i >= 0 && i < t.length() && (t.charAt(i) == '_' || t.charAt(i) < 128 && Character.isLetterOrDigit(t.charAt(i)));
  }

  private static final class Place extends Part {
    final String show;

    Place(String show) {
      this.show = show;
    }

    String show() {
      return show;
    }

    long weight() {
      return 1;
    }

    boolean match(String t, int at, int[] groups, Then then) {
      count();
      boolean edge = word(t, at - 1) != word(t, at);
      boolean ok = show.equals("^") ? at == 0 : show.equals("$") ? at == t.length() : show.equals("\\b") == edge;
      return ok && then.go(at, groups);
    }
  }

  private static final class Seq extends Part {
    final List<Part> parts = new ArrayList<>();

    String show() {
      StringBuilder b = new StringBuilder();
      for (Part p : parts) {
        b.append(p.show());
      }
      return b.toString();
    }

    long weight() {
      long w = 0;
      for (Part p : parts) {
        w += p.weight();
      }
      return w;
    }

    boolean match(String t, int at, int[] groups, Then then) {
      return from(0, t, at, groups, then);
    }

    boolean from(int i, String t, int at, int[] groups, Then then) {
      count();
      return i == parts.size() ? then.go(at, groups)
          : parts.get(i).match(t, at, groups, (a, g) -> from(i + 1, t, a, g, then));
    }
  }

  private static final class Alt extends Part {
    final List<Part> seqs = new ArrayList<>();

    String show() {
      StringBuilder b = new StringBuilder();
      for (int i = 0; i < seqs.size(); i++) {
        b.append(i > 0 ? "|" : "").append(seqs.get(i).show());
      }
      return b.toString();
    }

    long weight() {
      long w = seqs.size() - 1;
      for (Part p : seqs) {
        w += p.weight();
      }
      return w;
    }

    boolean match(String t, int at, int[] groups, Then then) {
      for (Part p : seqs) {
        if (p.match(t, at, groups, then)) {
          return true;
        }
      }
      return false;
    }
  }

  /** Kinds: ( (?: (?= (?! */
  private static final class Paren extends Part {
    final String open;
    final int group;
    final Part in;

    Paren(String open, int group, Part in) {
      this.open = open;
      this.group = group;
      this.in = in;
    }

    String show() {
      return open + in.show() + ")";
    }

    long weight() {
      return in.weight() + (group > 0 ? 2 : 1);
    }

    boolean match(String t, int at, int[] groups, Then then) {
      count();
      if (open.equals("(?:")) {
        return in.match(t, at, groups, then);
      }
      if (open.equals("(")) {
        return in.match(t, at, groups, (a, g) -> {
          int[] h = g.clone();
          h[2 * group] = at;
          h[2 * group + 1] = a;
          return then.go(a, h);
        });
      }
      int[][] kept = new int[1][];
      boolean there = in.match(t, at, groups, (a, g) -> {
        kept[0] = g;
        return true;
      });
      return open.equals("(?=") ? there && then.go(at, kept[0]) : !there && then.go(at, groups);
    }
  }

  private static final class Repeat extends Part {
    final Part of;
    final String show;
    final int n;
    final int m;
    final char mode;

    Repeat(Part of, String show, int n, int m, char mode) {
      this.of = of;
      this.show = show;
      this.n = n;
      this.m = m;
      this.mode = mode;
    }

    String show() {
      return of.show() + show + (mode == ' ' ? "" : "" + mode);
    }

    long weight() {
      long w = of.weight();
      return n * w + (m < 0 ? w + 1 : (m - n) * (w + 1)) + (mode == '+' ? 1 : 0);
    }

    boolean match(String t, int at, int[] groups, Then then) {
      if (mode != '+') {
        return round(0, t, at, groups, then);
      }
      int[][] kept = new int[2][];
      boolean there = round(0, t, at, groups, (a, g) -> {
        kept[0] = g;
        kept[1] = new int[] {a};
        return true;
      });
      return there && then.go(kept[1][0], kept[0]);
    }

    boolean round(int i, String t, int at, int[] groups, Then then) {
      count();
      Then next = (a, g) -> (i < n || m >= 0 || a > at) && round(i + 1, t, a, g, then);
      if (i < n) {
        return of.match(t, at, groups, next);
      }
      boolean more = m < 0 || i < m;
      if (mode == '?') {
        return then.go(at, groups) || more && of.match(t, at, groups, next);
      }
      return more && of.match(t, at, groups, next) || then.go(at, groups);
    }
  }

  // drawing

  private static Random r;
  private static int groups;
  private static boolean closed;

  private static Part drawAlt(int deep, boolean mayClose) {
    Alt a = new Alt();
    int n = r.nextInt(4) == 0 ? 2 + r.nextInt(2) : 1;
    for (int i = 0; i < n; i++) {
      Seq s = new Seq();
      for (int k = r.nextInt(4); k > 0; k--) {
        s.parts.add(drawPart(deep, mayClose));
      }
      a.seqs.add(s);
    }
    return a;
  }

  private static Part drawPart(int deep, boolean mayClose) {
    boolean before = closed;
    closed = false;
    Part atom = drawAtom(deep, mayClose);
    boolean fixed = atom instanceof Place || atom instanceof Paren && (((Paren) atom).open.equals("(?=") || ((Paren) atom).open.equals("(?!"));
    if (!fixed && r.nextInt(2) == 0) {
      int n = r.nextInt(3);
      int m = n + r.nextInt(3);
      char mode = " ?+".charAt(r.nextInt(3));
      if (mode == '+' && (closed || !mayClose)) {
        mode = ' ';
      }
      closed |= mode == '+';
      switch (r.nextInt(6)) {
        case 0:
          atom = new Repeat(atom, "*", 0, -1, mode);
          break;
        case 1:
          atom = new Repeat(atom, "+", 1, -1, mode);
          break;
        case 2:
          atom = new Repeat(atom, "?", 0, 1, mode);
          break;
        case 3:
          atom = new Repeat(atom, "{" + n + "}", n, n, mode);
          break;
        case 4:
          atom = new Repeat(atom, "{" + n + ",}", n, -1, mode);
          break;
        default:
          atom = new Repeat(atom, "{" + n + "," + m + "}", n, m, mode);
          break;
      }
    }
    closed |= before;
    return atom;
  }

  private static Part drawAtom(int deep, boolean mayClose) {
    switch (r.nextInt(deep > 4 ? 6 : 12)) {
      case 0:
        return drawSet();
      case 1:
        return new Place(new String[] {"^", "$", "\\b", "\\B"}[r.nextInt(4)]);
      case 2:
        return new Leaf(".", c -> c != 10);
      case 3:
      case 4:
      case 5:
        char c = "abc".charAt(r.nextInt(3));
        return new Leaf("" + c, v -> v == c);
      case 6:
      case 7:
        if (groups < 9) {
          int g = ++groups;
          return new Paren("(", g, drawAlt(deep + 1, mayClose));
        }
        return new Leaf("]", v -> v == ']');
      case 8:
        if (mayClose) {
          Part p = drawAlt(deep + 1, false);
          closed = true;
          return new Paren(r.nextBoolean() ? "(?=" : "(?!", 0, p);
        }
        return new Leaf("}", v -> v == '}');
      default:
        return new Paren("(?:", 0, drawAlt(deep + 1, mayClose));
    }
  }

  private static Part drawSet() {
    switch (r.nextInt(11)) {
      case 9:
        return new Leaf("[a-\\d]", v -> v == 'a' || v == '-' || v >= '0' && v <= '9');
      case 8:
        return new Leaf("[^b-\\]+-\\.]", v -> "b-]+.".indexOf(v) < 0);
      case 0:
        return new Leaf("\\w", v -> word("" + (char) v, 0));
      case 1:
        return new Leaf("\\D", v -> v < '0' || v > '9');
      case 2:
        return new Leaf("\\s", v -> v == 32 || v >= 9 && v <= 13);
      case 3:
        return new Leaf("[^ab]", v -> v != 'a' && v != 'b');
      case 4:
        return new Leaf("[a-b\\d]", v -> v == 'a' || v == 'b' || v >= '0' && v <= '9');
      case 5:
        return new Leaf("[c\\]-]", v -> v == 'c' || v == ']' || v == '-');
      case 6:
        return new Leaf("[^\\Wb]", v -> word("" + (char) v, 0) && v != 'b');
      case 7:
        return new Leaf("[+--]", v -> v >= '+' && v <= '-');
      default:
        return new Leaf("\\.", v -> v == '.');
    }
  }

  public static void main(String[] args) {
    int done = 0;
    for (int seed = 0; seed < 12000; seed++) {
      r = Check.random(seed);
      done += play() ? 1 : 0;
    }
    Check.same("most PATTERNS are short enough to be played", done > 8000, true);
    breaks();
    prefixes();
    weights();
    heavy();
    matchEdges();
    replaceEdges();
    Check.end("PatternTest");
  }

  private static String drawText() {
    StringBuilder b = new StringBuilder();
    for (int n = r.nextInt(9); n > 0; n--) {
      b.append(r.nextInt(9) == 0 ? "\n ]}1.-\u00e9".charAt(r.nextInt(8)) : "abc".charAt(r.nextInt(r.nextInt(3) + 1)));
    }
    return b.toString();
  }

  private static int[] find(Part p, String t, int how, int a) {
    for (int at = how == 0 ? 0 : a; at <= (how == 2 ? t.length() : how == 0 ? 0 : a); at++) {
      int start = at;
      int[][] found = new int[1][];
      int[] none = new int[20];
      Arrays.fill(none, -1);
      boolean there = p.match(t, at, none, (e, g) -> {
        if (how == 0 && e < t.length()) {
          return false;
        }
        found[0] = g.clone();
        found[0][0] = start;
        found[0][1] = e;
        return true;
      });
      if (there) {
        return found[0];
      }
    }
    return null;
  }

  private static boolean play() {
    groups = 0;
    closed = false;
    Part p = drawAlt(0, true);
    LibraryDesk x = new LibraryDesk();
    String show = p.show();
    if (show.length() > 200) {
      return false;
    }
    Check.tape(x, show);
    if (p.weight() > 400) {
      Check.beyond(() -> x.pattern());
      return false;
    }
    Check.due(show, () -> x.pattern(), 0);
    int[] last = new int[20];
    Arrays.fill(last, -1);
    x.make(7, 0, 0);
    for (int k = 0; k < 6; k++) {
      String t = drawText();
      x.text(1, 12, 0, 0);
      Check.tape(x, t);
      x.text(1, 0, 0, 0);
      int how = r.nextInt(3);
      int a = r.nextInt(t.length() + 1);
      steps = 0;
      try {
        int[] want = find(p, t, how, a);
        String call = "<" + show + "> in <" + t + "> how " + how + " from " + a;
        Check.due(call, () -> x.match(0, 1, how, a), want == null ? -1 : want[1]);
        last = want == null ? last : want;
        for (int g = 0; g < 20; g++) {
          int i = g;
          Check.due("group " + g + " of " + call, () -> x.group(i / 2, i % 2), last[g]);
        }
        steps = 0;
        replace(x, p, t);
      } catch (TooLong e) {
        return false;
      }
    }
    return true;
  }

  private static void replace(LibraryDesk x, Part p, String t) {
    String by = new String[] {"", "x", "<$0>", "$$$1-$2", "$9"}[r.nextInt(5)];
    StringBuilder b = new StringBuilder();
    int n = 0;
    int done = 0;
    for (int from = 0; from <= t.length(); ) {
      int[] m = find(p, t, 2, from);
      if (m == null) {
        break;
      }
      n++;
      b.append(t, done, m[0]);
      for (int i = 0; i < by.length(); i++) {
        char c = by.charAt(i);
        if (c == '$') {
          c = by.charAt(++i);
          if (c != '$') {
            int g = c - '0';
            b.append(m[2 * g] < 0 ? "" : t.substring(m[2 * g], m[2 * g + 1]));
            continue;
          }
        }
        b.append(c);
      }
      done = m[1];
      from = m[1] > m[0] ? m[1] : m[1] + 1;
    }
    b.append(t.substring(done));
    Check.tape(x, by);
    Check.due("replace in <" + t + ">", () -> x.replace(0, 1), n);
    Check.same("replaced", Check.textOf(x, 1), b);
    Check.due(() -> x.count(3), -1);
  }

  private static void breaks() {
    LibraryDesk x = new LibraryDesk();
    Object[][] bad = {{"*", 0}, {"+a", 0}, {"?", 0}, {"{1}", 0}, {"a|*", 2}, {"(", 1}, {"(a", 2}, {")", 0}, {"a)", 1}, {"(a))", 3},
        {"a**", 2}, {"a*?+", 3}, {"a+++", 3}, {"a??*", 3}, {"a{", 2}, {"a{x", 2}, {"a{,3}", 2}, {"a{3", 3}, {"a{3,", 4}, {"a{3,x}", 4},
        {"a{21}", 2}, {"a{200}", 2}, {"a{1,21}", 4}, {"a{5,3}", 4}, {"a{05}", 3}, {"a{00}", 3}, {"a{1,00}", 4}, {"a{0,00}", 5}, {"a{0,05}", 5}, {"a{2,0}", 4}, {"a{2,01}", 4}, {"a{1,05}", 4}, {"a{01,2}", 3}, {"a{025}", 3}, {"a{1,2", 5}, {"a{1 }", 3},
        {"a{1,2x", 5}, {"^*", 1}, {"$+", 1}, {"\\b?", 2}, {"\\B{2}", 2}, {"(?=a)*", 5}, {"(?!a){2}", 5}, {"\\", 1}, {"\\a", 1}, {"\\1", 1},
        {"a\\z", 2}, {"[", 1}, {"[]", 1}, {"[^]", 2}, {"[^", 2}, {"[a", 2}, {"[a-", 3}, {"[b-a]", 1}, {"[xb-a]", 2}, {"[a-\\]", 5}, {"[a-\\b]", 4}, {"[a-\\", 4},
        {"[\\b]", 2}, {"[\\B]", 2}, {"[\\e]", 2}, {"[\\", 2}, {"[\\1]", 2}, {"(?a)", 2}, {"(?", 2}, {"(?<a)", 2}, {"(?*", 2},
        {"\u001f", 0}, {"a\u007f", 1}, {"a\n", 1}, {"[\t]", 1}, {"[a-\u0080]", 3}, {"\\\u00ff", 1},
        {"(?=(?=a))", 3}, {"(?!b(?!a))", 4}, {"(?=a*+)", 5}, {"(?!(a{2}+))", 8}, {"(?:a*+)*+", 8}, {"(?:(?=a)b)++", 11},
        {"(?:a++b)?+", 9}, {"(?=(?x", 5}, {"(?=(a)(?:b)(?=c))", 11}, {"a||*", 3}, {"(|+)", 2},
        {"((((((((((a", 11 - 2}, {"(?:(?:(?:(?:(?:(?:(?:(?:(?:(?:(?:a", 30}, {"()()()()()()()()()()", 18},
        {"()()()()()()()()()(?:a)(b", 23}, {"a{1}{2}", 4}, {"a{2}?{", 5}, {"]{}", 2}};
    for (Object[] b : bad) {
      Check.broken(x, (String) b[0], () -> x.pattern(), (Integer) b[1]);
    }
    Check.due(() -> x.count(2), 0);
    Check.broken(x, "a".repeat(201), () -> x.pattern(), 200);
    Check.broken(x, "a".repeat(199) + "(a)", () -> x.pattern(), 200);
    Check.broken(x, "(".repeat(4000), () -> x.pattern(), 9);
    Check.broken(x, "b".repeat(4000), () -> x.pattern(), 200);
    String[] good = {"", "|", "a|", "()", "(?:)", "]", "}", "a}", "[a-]", "[-a]", "[--]", "[a-b-c]", "[a-\\d]", "[a-\\]-]", "[+--\\w]", "[^^]", "[(*+?{.$|]", "[[]", "[ -~]",
        "\\\\\\.\\ \\_", "a{0}", "a{20}", "a{0,0}", "a{0,}?", "a{2,2}+", "a?+", "(?:(?:(?:(?:(?:(?:(?:(?:(?:(?:a))))))))))",
        "()()()()()()()()()", "(?=(a|b*)*)(?!c)", "a*+b*+(?=c)", "(?:(?=a))?", "(?:a*+)*", "^a$\\b\\B", "-", ",", "a-b,", "&", "[\\]\\\\]",
        "[]-a]".replace("[]", "[\\]"), "~ !\"#%'/:;<=>@`", "(?:(?=a)|b)+?"};
    for (String g : good) {
      LibraryDesk y = new LibraryDesk();
      Check.tape(y, g);
      Check.due(g, () -> y.pattern(), 0);
      Check.due(() -> y.count(3), -1);
      Check.due(() -> y.count(10), 8);
    }
    Check.tape(x, "a".repeat(200));
    Check.due(() -> x.pattern(), 0);
  }

  /** Up to PLACE a tape can be ended somehow; with the byte at PLACE it can not. */
  private static void prefixes() {
    String[] ends = {"", "a", "1", "}", "1}", "a]", "]", ":", ":)", "=)", "a)", "9", ",}", "d", "-a]"};
    List<String> closings = new ArrayList<>();
    for (String e : ends) {
      for (int n = 0; n <= 5; n++) {
        closings.add(e + ")".repeat(n));
      }
    }
    String signs = "ab(()))[]{}?*+|\\^$.-,12d=!:";
    for (int seed = 0; seed < 2500; seed++) {
      Random random = Check.random(seed);
      StringBuilder b = new StringBuilder();
      for (int n = 1 + random.nextInt(12); n > 0; n--) {
        b.append(random.nextInt(5) == 0 ? new String[] {"(?:", "(?=", "(?!", "{1,", "[^"}[random.nextInt(5)] : "" + signs.charAt(random.nextInt(signs.length())));
      }
      String s = b.toString();
      LibraryDesk x = new LibraryDesk();
      int place = fault(x, s);
      if (place < 0 || s.substring(0, place).contains("{") && !s.substring(0, place).contains("}") || place < s.length() && numberOrRange(s, place)) {
        continue;
      }
      boolean ends1 = false;
      boolean ends2 = false;
      for (String e : closings) {
        ends1 |= fault(x, s.substring(0, place) + e) < 0;
        ends2 |= place < s.length() && fault(x, s.substring(0, place + 1) + e) < 0;
      }
      Check.same("<" + s + "> up to " + place, ends1, true);
      Check.same("<" + s + "> behind " + place, ends2, false);
    }
  }

  private static boolean numberOrRange(String s, int place) {
    return Character.isDigit(s.charAt(place)) || place + 1 < s.length() && s.charAt(place + 1) == '-' || s.charAt(place) == '(';
  }

  private static int fault(LibraryDesk x, String s) {
    Check.tape(x, s);
    try {
      x.drop(x.pattern());
      return -1;
    } catch (UnsupportedOperationException e) {
      return (int) x.count(3);
    } catch (IndexOutOfBoundsException e) {
      return -1;
    }
  }

  private static void weights() {
    LibraryDesk x = new LibraryDesk();
    String[] fit = {"a{20}".repeat(20), "(?:a{19}){20}", "(?:a{20}){0}", "(?:(?:(?:a{20}){20}){20}){0}", "(?:a{18})".repeat(20) + "a{20}",
        "(a{18}){20}", "(?:(a{8}){19})".repeat(2) + "a{18}", "a*".repeat(50) + "b?".repeat(50), "(?:a{10}+b*+){20}".replace("{20}", "{2}"),
        "|".repeat(200), "(a{20}){18}a{4}", "(?:a+){20}"};
    for (String s : fit) {
      Check.tape(x, s);
      String of = Check.of(() -> x.drop(x.pattern()));
      Check.same(s, of, "1");
    }
    String[] heavy = {"a{20}".repeat(20) + "b", "(?:a{20}){20}", "(?:a{19}){20}b{20}b", "(a{19}){20}", "(?:a*b){20}".repeat(7),
        "(?:(?:(?:(?:(?:a{20}){20}){20}){20}){20}){20}", "(?:a{19}){20}a{20}|", "(?:a{19}){20}a{19}+a"};
    for (String s : heavy) {
      Check.tape(x, s);
      Check.same(s, Check.of(() -> x.pattern()), "throws.IndexOutOfBoundsException");
      Check.due(() -> x.count(3), -1);
    }
  }

  private static void heavy() {
    LibraryDesk x = new LibraryDesk();
    Check.text(x, "a".repeat(1000));
    String[] s = {"(a*)*b", "(?:(?:(?:(?:(?:(?:(?:(?:(?:(?:a*)*)*)*)*)*)*)*)*)*)*b", "(?:a?){20}a{20}b", "(a|aa)+$", "(?:(?=(a*))a)*b", "(?:a*+)*b",
        "(a??)*?b", "((a?)*|b)*c"};
    for (String p : s) {
      Check.tape(x, p);
      int o = x.pattern();
      Check.due(p, () -> x.match(o, 0, 2, 0), p.equals("(a|aa)+$") ? 1000 : -1);
    }
  }

  private static void matchEdges() {
    LibraryDesk x = new LibraryDesk();
    Check.tape(x, "(a)|(b)*");
    int p = x.pattern();
    int t = Check.text(x, "abab");
    Check.cast(() -> x.match(t, p, 0, 0));
    Check.cast(() -> x.match(t, t, 9, 0));
    Check.none(() -> x.match(p, 9, 9, 0));
    Check.none(() -> x.match(t, 9, 9, 0));
    Check.illegal(() -> x.match(p, t, 3, 0));
    Check.illegal(() -> x.match(p, t, -1, 9));
    Check.beyond(() -> x.match(p, t, 1, 5));
    Check.beyond(() -> x.match(p, t, 1, -1));
    Check.beyond(() -> x.match(p, t, 2, 5));
    Check.beyond(() -> x.match(p, t, 2, -1));
    Check.due(() -> x.match(p, t, 0, 99), -1);
    Check.due(() -> x.group(0, 0), -1);
    Check.due(() -> x.match(p, t, 1, 4), 4);
    Check.due(() -> x.group(0, 0), 4);
    Check.due(() -> x.group(1, 0), -1);
    Check.due(() -> x.match(p, t, 1, 1), 2);
    Check.due(() -> x.group(2, 1), 2);
    Check.due(() -> x.match(p, t, 0, 0), -1);
    Check.due(() -> x.group(2, 0), 1);
    Check.illegal(() -> x.group(10, 0));
    Check.illegal(() -> x.group(-1, 0));
    Check.illegal(() -> x.group(0, 2));
    Check.illegal(() -> x.group(0, -1));
    x.text(t, 17, 250, 0);
    Check.due(() -> x.match(p, t, 1, 1000), 1000);
    Check.tape(x, "a");
    x.text(t, 0, 0, 0);
    Check.beyond(() -> x.match(p, t, 1, 0));
    Check.beyond(() -> x.match(p, t, 0, 0));
    Check.illegal(() -> x.match(p, t, 4, 0));
    x.drop(p);
    Check.due(() -> x.group(0, 0), 1000);
    x.make(7, 0, 0);
    Check.tape(x, "\u00e9\u0080\nZ");
    x.text(0, 0, 0, 0);
    Check.tape(x, "\\W\\D\\s[^a]");
    int q = x.pattern();
    Check.due(() -> x.match(q, 0, 0, 0), 4);
    Check.tape(x, "..");
    int two = x.pattern();
    Check.due(() -> x.match(two, 0, 2, 1), -1);
    Check.due(() -> x.match(two, 0, 2, 0), 2);
  }

  private static void replaceEdges() {
    LibraryDesk x = new LibraryDesk();
    Check.tape(x, "a*");
    int p = x.pattern();
    int t = Check.text(x, "baaac");
    Check.tape(x, "X");
    Check.due(() -> x.replace(p, t), 4);
    Check.same("replaced", Check.textOf(x, t), "XbXXcX");
    Check.broken(x, "a$", () -> x.replace(p, t), 2);
    Check.broken(x, "$a$", () -> x.replace(p, t), 1);
    Check.broken(x, "$$$", () -> x.replace(p, t), 3);
    Check.broken(x, "ab$0$\u00ff", () -> x.replace(p, t), 5);
    Check.tape(x, "z");
    Check.cast(() -> x.replace(t, p));
    Check.due(() -> x.count(0), 0);
    Check.none(() -> x.replace(t, 9));
    Check.none(() -> x.replace(9, t));
    x.text(t, 12, 300, 0);
    Check.tape(x, "1234567890123");
    Check.state(() -> x.replace(p, t));
    Check.due(() -> x.text(t, 11, 0, 0), 300);
    Check.tape(x, "123456789012");
    Check.due(() -> x.replace(p, t), 301);
    Check.due(() -> x.text(t, 11, 0, 0), 3912);
    x.text(t, 12, 301, 0);
    Check.tape(x, "$");
    Check.beyond(() -> x.replace(p, t));
    Check.due(() -> x.count(3), -1);
    x.text(t, 12, 0, 0);
    Check.tape(x, "q".repeat(4000));
    Check.due(() -> x.replace(p, t), 1);
    Check.due(() -> x.text(t, 11, 0, 0), 4000);
  }
}
