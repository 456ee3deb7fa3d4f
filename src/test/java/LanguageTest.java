import java.nio.file.Files;
import java.nio.file.Paths;
import java.util.List;
import java.util.regex.Matcher;
import java.util.regex.Pattern;

/** What of ../shared/LANGUAGE.md can be seen from the lines of the program. */
public final class LanguageTest {
  public static void main(String[] args) throws Exception {
    List<String> lines = Files.readAllLines(Paths.get("src/main/java/LibraryDesk.java"));
    int classes = 0;
    int begin = -1;
    for (int i = 0; i < lines.size(); i++) {
      String line = lines.get(i);
      String code = line.replaceAll("\"(\\\\.|[^\"\\\\])*\"", "\"\"").replaceAll("'(\\\\.|[^'\\\\])'", "' '").replaceAll("//.*", "");
      if (code.trim().startsWith("*") || code.trim().startsWith("/**")) {
        continue;
      }
      classes += code.matches(".*\\bclass \\w+ \\{") ? 1 : 0;
      for (String no : new String[] {"->", "::", "finally", "synchronized", "assert ", "Exact(", "catch", "float ", "double ", "System.out", "\"\" +", "+ \"\"", "import static", "record ", "goto"}) {
        if (code.contains(no)) {
          Check.fail("line " + (i + 1) + " has " + no);
        }
      }
      if (code.startsWith("import") && !code.equals("import java.util.Arrays;") && !code.equals("import java.util.NoSuchElementException;")) {
        Check.fail("line " + (i + 1) + ": " + code);
      }
      if (code.contains("throw ") && !code.trim().matches("throw new (NoSuchElement|ClassCast|IllegalArgument|IllegalState|UnsupportedOperation|IndexOutOfBounds|Arithmetic|NegativeArraySize)Exception\\(\\);")) {
        Check.fail("line " + (i + 1) + ": " + code);
      }
      if (code.contains("static") && code.contains(";") && !code.contains("(") && !code.contains("final")) {
        Check.fail("line " + (i + 1) + " has a static that is not final");
      }
      if (code.matches("(  |    )(public |private |static )*[\\w\\[\\]]+( \\w+)?\\(.*")) {
        begin = i;
        parameters(lines, i);
      }
      if (code.equals("  }") || code.equals("    }")) {
        if (begin >= 0 && i - begin >= 60) {
          Check.fail("the method at line " + (begin + 1) + " is " + (i - begin + 1) + " lines long");
        }
        begin = -1;
      }
    }
    Check.same("classes", classes <= 12, true);
    Check.end("LanguageTest");
  }

  private static void parameters(List<String> lines, int at) {
    StringBuilder b = new StringBuilder();
    for (int i = at; i < Math.min(at + 8, lines.size()); i++) {
      b.append(lines.get(i));
    }
    Matcher m = Pattern.compile("\\(([^()]*)\\)").matcher(b);
    if (m.find() && m.group(1).split(",").length > 7) {
      Check.fail("line " + (at + 1) + " has more than seven parameters");
    }
  }
}
