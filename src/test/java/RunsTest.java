import java.io.IOException;
import java.lang.reflect.InvocationTargetException;
import java.lang.reflect.Method;
import java.nio.file.Files;
import java.nio.file.Path;
import java.nio.file.Paths;
import java.util.HashMap;
import java.util.HashSet;
import java.util.List;
import java.util.Map;
import java.util.Set;
import java.util.stream.Collectors;
import java.util.stream.Stream;

/**
 * Runs of at most 512 calls over the whole face. What each call answers stands behind it in
 * src/test/runs: a model in another language, written anew from the document, told it.
 */
public final class RunsTest {
  private static final Map<String, Method> FACE = new HashMap<>();
  private static final Set<String> CALLED = new HashSet<>(List.of("feed", "end"));
  private static LibraryDesk desk;
  private static int calls;

  public static void main(String[] args) throws IOException {
    for (Method m : LibraryDesk.class.getMethods()) {
      if (m.getDeclaringClass() == LibraryDesk.class) {
        FACE.put(m.getName(), m);
      }
    }
    try (Stream<Path> files = Files.list(Paths.get("src/test/runs"))) {
      for (Path file : files.sorted().collect(Collectors.toList())) {
        replay(file);
      }
    }
    Check.same("all of the face is called", CALLED.equals(FACE.keySet()), true);
    Check.end("RunsTest");
  }

  private static void replay(Path file) throws IOException {
    int line = 0;
    for (String told : Files.readAllLines(file)) {
      line++;
      String where = file.getFileName() + " line " + line + ": " + told;
      if (told.equals("new")) {
        desk = new LibraryDesk();
        calls = 0;
      } else if (told.startsWith("tape ")) {
        feed(bytes(told.substring(5)));
      } else {
        int open = told.indexOf('(');
        int close = told.indexOf(") = ");
        String name = told.substring(0, open);
        CALLED.add(name);
        call(where, FACE.get(name), told.substring(open + 1, close), told.substring(close + 4));
      }
      Check.same(where + ": at most 512 calls", calls <= 512, true);
    }
  }

  private static void call(String where, Method m, String numbers, String due) {
    String[] told = numbers.isEmpty() ? new String[0] : numbers.split(", ");
    Object[] given = new Object[told.length];
    for (int i = 0; i < told.length; i++) {
      given[i] = m.getParameterTypes()[i] == long.class ? (Object) Long.valueOf(told[i]) : Integer.valueOf(told[i]);
    }
    calls++;
    Check.same(where, Check.of(() -> answer(m, given)), due);
  }

  private static long answer(Method m, Object[] given) {
    try {
      return ((Number) m.invoke(desk, given)).longValue();
    } catch (InvocationTargetException e) {
      throw (RuntimeException) e.getCause();
    } catch (IllegalAccessException e) {
      throw new IllegalStateException(e);
    }
  }

  /** A byte that is no sign, and a blank at an end, stands as a backslash and two digits of radix 16. */
  private static byte[] bytes(String told) {
    byte[] row = new byte[told.length()];
    int n = 0;
    for (int i = 0; i < told.length(); i++) {
      boolean sign = told.charAt(i) != '\\';
      row[n++] = (byte) (sign ? told.charAt(i) : Integer.parseInt(told.substring(i + 1, i + 3), 16));
      i += sign ? 0 : 2;
    }
    return java.util.Arrays.copyOf(row, n);
  }

  private static void feed(byte[] row) {
    desk.end(0);
    int[] five = new int[5];
    for (int i = 0; i < row.length; i += 20) {
      for (int k = 0; k < 20; k++) {
        five[k / 4] = five[k / 4] << 8 | (i + k < row.length ? row[i + k] & 255 : 0);
      }
      desk.feed(five[0], five[1], five[2], five[3], five[4]);
      calls++;
    }
    desk.end(row.length);
    calls += 2;
  }
}
