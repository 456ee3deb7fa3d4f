import java.util.Locale;
import java.util.Random;

/** Promise 11 (form), beside String.format where that says the same. */
public final class FormTest {
  public static void main(String[] args) {
    Random r = Check.random(1);
    for (int i = 0; i < 4000; i++) {
      play(r);
    }
    shown();
    broken();
    edges();
    Check.end("FormTest");
  }

  private static String field(Random r, char letter) {
    StringBuilder b = new StringBuilder("%");
    boolean minus = r.nextInt(4) == 0;
    boolean zero = !minus && r.nextInt(3) == 0 && "dxo".indexOf(letter) >= 0;
    String flags = (minus ? "-" : "") + (zero ? "0" : "");
    if (letter == 'd') {
      int sign = r.nextInt(3);
      flags += (sign == 1 ? "+" : sign == 2 ? " " : "") + (r.nextBoolean() ? "," : "");
    }
    StringBuilder f = new StringBuilder(flags);
    if (r.nextBoolean()) {
      f.reverse();
    }
    b.append(f);
    if (minus || zero || r.nextBoolean()) {
      b.append(1 + r.nextInt(r.nextBoolean() ? 9 : 99));
    }
    if (letter == 'b' && r.nextBoolean()) {
      b.append('.').append(r.nextInt(7));
    }
    return b.append(letter).toString();
  }

  private static void play(Random r) {
    LibraryDesk x = new LibraryDesk();
    x.make(0, 0, 0);
    StringBuilder tape = new StringBuilder();
    StringBuilder want = new StringBuilder();
    int fields = r.nextInt(5);
    for (int i = 0; i < fields; i++) {
      tape.append("a%%\u00e9");
      want.append("a%\u00e9");
      char letter = "dxocb".charAt(r.nextInt(5));
      int v = r.nextInt(3) == 0 ? r.nextInt() : r.nextInt(4) == 0 ? Integer.MIN_VALUE : r.nextInt(3000) - 1500;
      String f = field(r, letter);
      tape.append(f);
      want.append(String.format(Locale.US, f, letter == 'c' ? (Object) (char) (v & 255) : letter == 'b' ? (Object) (v != 0) : (Object) v));
      x.list(0, 0, v, 0);
    }
    Check.tape(x, tape.toString());
    Check.due(tape.toString(), () -> x.form(0), want.length());
    Check.same(tape.toString(), Check.out(x), want);
    Check.due(() -> x.count(0), 0);
    Check.due(() -> x.count(3), -1);
  }

  private static void show(String tape, String want, int... v) {
    LibraryDesk x = new LibraryDesk();
    x.make(0, 0, 0);
    Check.text(x, "a text");
    for (int i : v) {
      x.list(0, 0, i, 0);
    }
    Check.tape(x, tape);
    Check.due(tape, () -> x.form(0), want.length());
    Check.same(tape, Check.out(x), want);
  }

  private static void shown() {
    show("", "");
    show("no field", "no field");
    show("%d|%5d|%-5d|%05d", "-7|   -7|-7   |-0007", -7, -7, -7, -7);
    show("%+d|% d|%+d|% d", "+0| 0|-1|-1", 0, 0, -1, -1);
    show("%,d|%,012d|%+,d", "1,234,567|-001,234,567|+999", 1234567, -1234567, 999);
    show("%x|%o|%08x|%-4x|", "ffffffff|37777777777|000000ff|a   |", -1, -1, 255, 10);
    show("%c%c%-3c|%3c", "AB\u00ffx  |  y".replace("x", ""), 65, 0x142, -1, 'y');
    show("%b|%6b|%-6b|%.2b|%.0b|%5.1b", "true| false|true  |fa||    t", 9, 0, -1, 0, 1, 1);
    show("%s|%8s|%-8s|%.3s|%4.1s|%.99s", "a text|  a text|a text  |a t|   a|a text", 1, 1, 1, 1, 1, 1);
    show("100%%", "100%");
    show("%99d", " ".repeat(98) + "1", 1);
    show("%10x%010o", "        ff0000000010", 255, 8);
    show("%2d%3x", "1000fff", 1000, 4095);
  }

  private static void broken() {
    LibraryDesk x = new LibraryDesk();
    x.make(0, 0, 0);
    Object[][] bad = {{"%", 1}, {"a%", 2}, {"%q", 1}, {"%--5d", 2}, {"%00d", 2}, {"%++d", 2}, {"%  d", 2}, {"%,,d", 2}, {"%-0-5d", 3}, {"%5-d", 2},
        {"%100d", 3}, {"%123d", 3}, {"%5", 2}, {"%-", 2}, {"%.d", 2}, {"%.", 2}, {"%.123b", 4}, {"%.5x", 3}, {"%.5d", 3}, {"%.5c", 3}, {"%.5%", 3},
        {"%-05d", 4}, {"%0-5x", 4}, {"%+ d", 3}, {"% +d", 3}, {"%-d", 2}, {"%0d", 2}, {"%-s", 2}, {"%0x", 2}, {"%05s", 3}, {"%05c", 3}, {"%05b", 3},
        {"%+s", 2}, {"%,c", 2}, {"% b", 2}, {"%+x", 2}, {"% o", 2}, {"%,x", 2}, {"%5%", 2}, {"%-%", 2}, {"%-5%", 3}, {"%0%", 2}, {"%.1%", 3},
        {"%d%D", 3}, {"%%%", 3}, {"%s%5", 4}, {"%5.s", 3}, {"%5..1s", 3}, {"%5.1", 4}, {"%\u00ff", 1}, {"%+,-5", 5}, {"%1$d", 2}, {"%0", 2}};
    for (Object[] b : bad) {
      Check.broken(x, (String) b[0], () -> x.form(0), (Integer) b[1]);
    }
    Check.due(() -> x.count(1), 0);
  }

  private static void edges() {
    LibraryDesk x = new LibraryDesk();
    x.make(0, 0, 0);
    x.make(6, 0, 0);
    int t = Check.text(x, "t".repeat(4000));
    Check.tape(x, "%d");
    Check.beyond(() -> x.form(0));
    Check.tape(x, "%");
    Check.cast(() -> x.form(1));
    Check.due(() -> x.count(0), 0);
    Check.due(() -> x.count(3), -1);
    Check.none(() -> x.form(9));
    x.list(0, 0, 5, 0);
    int v = x.view(0, 0, 0, 1);
    Check.tape(x, "<%d>");
    Check.due(() -> x.form(v), 3);
    Check.same("by a VIEW", Check.out(x), "<5>");
    x.list(0, 0, 20, 0);
    Check.tape(x, "%");
    Check.state(() -> x.form(v));
    Check.tape(x, "%d%s");
    Check.none(() -> x.form(0));
    x.list(0, 3, 1, 1);
    Check.tape(x, "%d%s");
    Check.cast(() -> x.form(0));
    x.list(0, 3, 1, -1);
    Check.tape(x, "%d%s%d");
    Check.none(() -> x.form(0));
    Check.same("OUT as it was", Check.out(x), "<5>");
    x.list(0, 8, 0, 0);
    for (int i = 0; i < 17; i++) {
      x.list(0, 0, t, 0);
    }
    x.list(0, 0, 22, 0);
    Check.tape(x, "%s".repeat(16) + "x".repeat(1536));
    Check.due(() -> x.form(0), 65536);
    Check.due(() -> x.word(65528), 0x7878787878787878L);
    Check.due(() -> x.word(65535), 0x78L << 56);
    Check.beyond(() -> x.word(65536));
    Check.tape(x, "%s".repeat(16) + "x".repeat(1537));
    Check.beyond(() -> x.form(0));
    Check.tape(x, "%s".repeat(18));
    Check.beyond(() -> x.form(0));
    Check.tape(x, "%s".repeat(16) + "x".repeat(1536) + "%d%s");
    Check.beyond(() -> x.form(0));
    x.list(0, 3, 16, 22);
    Check.tape(x, "%s".repeat(17) + "x".repeat(1537));
    Check.none(() -> x.form(0));
    Check.tape(x, "%s".repeat(16) + "x".repeat(1537) + "%s");
    Check.beyond(() -> x.form(0));
    Check.due(() -> x.count(1), 65536);
  }
}
