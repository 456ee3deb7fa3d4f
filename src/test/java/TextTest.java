import java.nio.charset.StandardCharsets;
import java.util.Base64;
import java.util.Random;
import java.util.zip.CRC32;

/** Promise 8 (text), beside String, CRC32 and Base64. */
public final class TextTest {
  private static final String ALPHA = "abAB \t\u000b\n\u0080\u00ff0=+/Zz[`{@";

  public static void main(String[] args) {
    for (int seed = 0; seed < 1500; seed++) {
      play(Check.random(seed));
    }
    edges();
    base64();
    wrong();
    Check.end("TextTest");
  }

  private static String draw(Random r, int most) {
    StringBuilder b = new StringBuilder();
    int kinds = 2 + r.nextInt(ALPHA.length() - 1);
    for (int n = r.nextInt(most + 1); n > 0; n--) {
      b.append(ALPHA.charAt(r.nextInt(kinds)));
    }
    return b.toString();
  }

  private static void play(Random r) {
    LibraryDesk x = new LibraryDesk();
    String[] s = {"", ""};
    x.make(7, 0, 0);
    x.make(7, 0, 0);
    for (int call = 0; call < 60; call++) {
      int o = r.nextInt(2);
      int op = r.nextInt(3) == 0 ? 0 : r.nextInt(20);
      String tape = draw(r, 6);
      int a = op == 9 ? r.nextInt(2) : op == 17 ? r.nextInt(4) : r.nextInt(14) - 2;
      int b = r.nextInt(14) - 1;
      Check.tape(x, tape);
      String got = Check.of(() -> x.text(o, op, a, b));
      boolean reads = op == 0 || op == 1 || op == 3 || op == 7 || op == 8;
      Check.due(() -> x.count(0), reads ? 0 : tape.length());
      String want = Check.of(() -> due(x, s, o, op, a, b, tape));
      Check.same("text " + op + " " + a + " " + b + " of <" + s[o] + ">", got, want);
      Check.same("the text after " + op, Check.textOf(x, o), s[o]);
    }
  }

  private static void need(boolean inside) {
    if (!inside) {
      throw new IndexOutOfBoundsException();
    }
  }

  private static long due(LibraryDesk x, String[] all, int o, int op, int a, int b, String tape) {
    String s = all[o];
    int n = s.length();
    switch (op) {
      case 0:
        all[o] = s + tape;
        break;
      case 1:
        need(a >= 0 && a <= n);
        all[o] = s.substring(0, a) + tape + s.substring(a);
        break;
      case 2:
      case 3:
        need(a >= 0 && a <= b && b <= n);
        all[o] = s.substring(0, a) + (op == 3 ? tape : "") + s.substring(b);
        break;
      case 4:
        all[o] = new StringBuilder(s).reverse().toString();
        break;
      case 5:
        need(a >= 0 && a < n);
        return s.charAt(a);
      case 6:
        need(a >= 0 && a < n);
        all[o] = s.substring(0, a) + (char) (b & 255) + s.substring(a + 1);
        return s.charAt(a);
      case 7:
        return tape.isEmpty() && a > n ? -1 : s.indexOf(tape, a);
      case 8:
        return s.lastIndexOf(tape, a);
      case 9:
        return s.compareTo(all[a]);
      case 10:
        int h = 1;
        for (char c : s.toCharArray()) {
          h = 31 * h + c;
        }
        return h;
      case 12:
        if (a < 0) {
          throw new IllegalArgumentException();
        }
        all[o] = a <= n ? s.substring(0, a) : s + "\0".repeat(a - n);
        break;
      case 13:
      case 14:
        StringBuilder c = new StringBuilder();
        for (char v : s.toCharArray()) {
          c.append(op == 13 && v >= 'a' && v <= 'z' ? (char) (v - 32) : op == 14 && v >= 'A' && v <= 'Z' ? (char) (v + 32) : v);
        }
        all[o] = c.toString();
        break;
      case 15:
        all[o] = s.replaceAll("^[\\t-\\r ]+", "").replaceAll("[\\t-\\r ]+$", "");
        while (!all[o].isEmpty() && "\t\n\u000b\f\r ".indexOf(all[o].charAt(all[o].length() - 1)) >= 0) {
          all[o] = all[o].substring(0, all[o].length() - 1);
        }
        break;
      case 16:
        Check.same("OUT", Check.out(x), s);
        break;
      case 17:
        if (a < 0) {
          throw new IllegalArgumentException();
        }
        all[o] = s.repeat(a);
        break;
      case 18:
        CRC32 crc = new CRC32();
        crc.update(s.getBytes(StandardCharsets.ISO_8859_1));
        return (int) crc.getValue();
      case 19:
        String coded = Base64.getEncoder().encodeToString(s.getBytes(StandardCharsets.ISO_8859_1));
        Check.same("BASE64", Check.out(x), coded);
        return coded.length();
      default:
        break;
    }
    return all[o].length();
  }

  private static void edges() {
    LibraryDesk x = new LibraryDesk();
    int t = Check.text(x, "ab");
    Check.due(() -> x.text(t, 17, 2000, 0), 4000);
    Check.state(() -> x.text(t, 17, 2, 0));
    Check.due(() -> x.text(t, 11, 0, 0), 4000);
    Check.tape(x, "z");
    Check.state(() -> x.text(t, 0, 0, 0));
    Check.due(() -> x.count(0), 0);
    Check.tape(x, "z");
    Check.beyond(() -> x.text(t, 1, 4001, 0));
    Check.due(() -> x.count(0), 0);
    Check.tape(x, "z");
    Check.state(() -> x.text(t, 1, 4000, 0));
    Check.tape(x, "z");
    Check.due(() -> x.text(t, 3, 0, 1), 4000);
    Check.tape(x, "zz");
    Check.state(() -> x.text(t, 3, 0, 1));
    Check.due(() -> x.text(t, 5, 0, 0), 'z');
    Check.due(() -> x.text(t, 19, 0, 0), 5336);
    Check.due(() -> x.text(t, 12, 4000, 0), 4000);
    Check.illegal(() -> x.text(t, 12, 4001, 0));
    Check.illegal(() -> x.text(t, 12, -1, 0));
    Check.illegal(() -> x.text(t, 17, 4001, 0));
    Check.illegal(() -> x.text(t, 17, -1, 0));
    Check.due(() -> x.text(t, 17, 0, 0), 0);
    Check.due(() -> x.text(t, 17, 4000, 0), 0);
    Check.due(() -> x.text(t, 4, 4000, 0), 0);
    Check.due(() -> x.text(t, 7, -5, 0), 0);
    Check.due(() -> x.text(t, 7, 1, 0), -1);
    Check.due(() -> x.text(t, 8, -1, 0), -1);
    Check.due(() -> x.text(t, 8, 9, 0), 0);
    Check.due(() -> x.text(t, 18, 0, 0), 0);
  }

  private static void base64() {
    LibraryDesk x = new LibraryDesk();
    int t = Check.text(x, "old");
    Random r = Check.random(3);
    for (int n = 0; n < 80; n++) {
      byte[] bytes = new byte[n];
      r.nextBytes(bytes);
      Check.tape(x, Base64.getEncoder().encodeToString(bytes));
      int size = n;
      Check.due(() -> x.text(t, 20, 0, 0), size);
      Check.same("decoded", Check.textOf(x, t), new String(bytes, StandardCharsets.ISO_8859_1));
      Check.due(() -> x.count(3), -1);
    }
    Check.tape(x, "");
    Check.due(() -> x.text(t, 20, 0, 0), 0);
    Check.tape(x, "TWFu");
    x.text(t, 20, 0, 0);
    String[] bad = {"A", "AAAAA", "AAAA*", "====", "A===", "AA=A", "=AAA", "A=AA", "AA==AAAA", "AAA=AAAA", "AAAAAA=A",
        "AB==", "AAB=", "AAAAAAAAAA-A", "AAAA AAA", "AAA\n", "AAAA\u00ffAAA", "AA=="};
    int[] place = {1, 5, 5, 0, 0, 0, 0, 0, 0, 0, 4, 0, 0, 8, 4, 0, 4, -1};
    for (int i = 0; i < bad.length; i++) {
      if (place[i] >= 0) {
        Check.broken(x, bad[i], () -> x.text(t, 20, 0, 0), place[i]);
        Check.same("as it was", Check.textOf(x, t), "Man");
      }
    }
    Check.tape(x, "AQ==");
    Check.due(() -> x.text(t, 20, 0, 0), 1);
    Check.due(() -> x.count(3), -1);
    String most = "QUJD".repeat(1000);
    Check.tape(x, most);
    Check.due(() -> x.text(t, 20, 0, 0), 3000);
  }

  private static void wrong() {
    LibraryDesk x = new LibraryDesk();
    x.make(0, 0, 0);
    x.make(7, 0, 0);
    Check.cast(() -> x.text(0, 99, 0, 0));
    Check.none(() -> x.text(5, 99, 0, 0));
    Check.none(() -> x.text(0, 9, 5, 0));
    Check.cast(() -> x.text(1, 9, 0, 0));
    Check.illegal(() -> x.text(1, 21, 0, 0));
    Check.illegal(() -> x.text(1, -1, 0, 0));
    Check.tape(x, "abc");
    Check.cast(() -> x.text(0, 20, 0, 0));
    Check.due(() -> x.count(0), 0);
  }
}
