import java.io.IOException;
import java.nio.file.Files;
import java.nio.file.Paths;
import java.util.List;

/** What README.md tells of the class is so; each line of Java there stands here, too. */
public final class ReadmeTest {
  public static void main(String[] args) throws IOException {
    LibraryDesk desk = new LibraryDesk();
    int list = desk.make(0, 0, 0);
    Check.same("list", list, 0);
    Check.due(() -> desk.list(list, 0, 7, 0), 1);
    Check.due(() -> desk.list(list, 0, 5, 0), 2);
    Check.due(() -> desk.list(list, 12, 0, 0), 2);
    Check.due(() -> desk.item(list, 0, 0), 5);
    int map = desk.make(4, 0, 0);
    Check.same("map", map, 1);
    Check.due(() -> desk.map(map, 0, 30, 300), Check.NONE);
    Check.due(() -> desk.map(map, 1, 30, 0), 300);
    Check.beyond(() -> desk.list(list, 2, 9, 0));
    Check.cast(() -> desk.list(map, 0, 1, 0));
    Check.none(() -> desk.list(20, 0, 1, 0));
    fromTheTape(desk, list);
    standsHere();
    Check.end("ReadmeTest");
  }

  private static void fromTheTape(LibraryDesk desk, int list) {
    tape(desk, "list 0 | map * 2 | sum");
    Check.due(() -> desk.stream(), 24);
    tape(desk, "%d and %03d");
    Check.due(() -> desk.form(list), 9);
    Check.same("OUT", out(desk), "5 and 007");
    int text = desk.make(7, 0, 0);
    Check.same("text", text, 2);
    tape(desk, "one two");
    Check.due(() -> desk.text(text, 0, 0, 0), 7);
    tape(desk, "(\\w+) (\\w+)");
    int pattern = desk.pattern();
    Check.same("pattern", pattern, 3);
    Check.due(() -> desk.match(pattern, text, 0, 0), 7);
    Check.due(() -> desk.group(2, 0), 4);
    tape(desk, "$2 $1");
    Check.due(() -> desk.replace(pattern, text), 1);
    desk.text(text, 16, 0, 0);
    Check.same("the TEXT", out(desk), "two one");
    int whole = desk.make(11, 0, 0);
    Check.same("whole", whole, 4);
    tape(desk, "123456789012345678901234567890");
    Check.due(() -> desk.read(whole, 10), 30);
    Check.due(() -> desk.whole(whole, 2, whole, whole), 1);
    Check.due(() -> desk.show(whole, 10), 59);
    int lock = desk.make(13, 0, 1);
    Check.same("lock", lock, 5);
    tape(desk, "lock 5; add 3; unlock 5");
    int thread = desk.thread();
    Check.same("thread", thread, 0);
    Check.due(() -> desk.run(1, 100), 3);
    Check.due(() -> desk.look(thread, 1), 3);
    Check.due(() -> desk.date(2024, 2, 29), 19782);
  }

  static void tape(LibraryDesk desk, String text) {
    desk.end(0);
    for (int i = 0; i < text.length(); i += 20) {
      int[] five = new int[5];
      for (int k = 0; k < 20 && i + k < text.length(); k++) {
        five[k / 4] |= (text.charAt(i + k) & 255) << 24 - 8 * (k % 4);
      }
      desk.feed(five[0], five[1], five[2], five[3], five[4]);
    }
    desk.end(text.length());
  }

  static String out(LibraryDesk desk) {
    StringBuilder text = new StringBuilder();
    for (int i = 0; i < desk.count(1); i++) {
      text.append((char) (desk.word(i) >>> 56));
    }
    return text.toString();
  }

  private static void standsHere() throws IOException {
    String here = Files.readString(Paths.get("src/test/java/ReadmeTest.java"));
    List<String> lines = Files.readAllLines(Paths.get("README.md"));
    boolean java = false;
    int seen = 0;
    for (String line : lines) {
      if (line.startsWith("```")) {
        java = line.equals("```java");
      } else if (java && !line.isBlank()) {
        String code = line.replaceAll(" *// .*", "").replaceAll(";$", "").trim();
        Check.same("stands here: " + code, here.contains(code), true);
        seen++;
      }
    }
    Check.same("README.md has lines of Java", seen > 0, true);
  }
}
