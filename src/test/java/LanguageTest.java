import java.io.IOException;
import java.nio.file.Files;
import java.nio.file.Path;
import java.util.regex.Matcher;
import java.util.regex.Pattern;

/** The rules of ../shared/LANGUAGE.md that can be read off the source, from the project's directory. */
public final class LanguageTest {
  private static final String[] FORBIDDEN = {
    "\\bpackage\\b", "\\bimport\\b", "\\bthrow\\b", "\\bthrows\\b", "\\btry\\b", "\\bcatch\\b",
    "\\bsynchronized\\b", "\\bassert\\b", "->", "::", "\\w+Exact\\b", "\\bSystem\\b", "\\bThread\\b",
    "\\bstatic\\s*\\{", "\\bnew\\s+\\w+\\s*\\([^)]*\\)\\s*\\{", "\\[\\s*\\]\\s*\\[\\s*\\]\\s*\\["
  };
  private static int wrong = 0;

  public static void main(String[] args) throws IOException {
    String source = Files.readString(Path.of("src/main/java/NetCuts.java"));
    String code = source.replaceAll("(?s)/\\*.*?\\*/", " ").replaceAll("//[^\n]*", " ");
    for (String rule : FORBIDDEN) {
      Matcher m = Pattern.compile(rule).matcher(code);
      check(!m.find(), "the source holds what matches " + rule);
    }
    staticFieldsAreConstants(code);
    roomIsMadeInConstructorsAlone(code);
    System.out.println(wrong == 0 ? "all rules are kept" : wrong + " rules are not kept");
    if (wrong != 0) {
      System.exit(1);
    }
  }

  private static void check(boolean good, String what) {
    if (!good) {
      wrong++;
      System.out.println(what);
    }
  }

  private static void staticFieldsAreConstants(String code) {
    Matcher m = Pattern.compile("\\bstatic\\s+(?!final\\b)[^(){};=]*[;=]").matcher(code);
    check(!m.find(), "a static field is not final");
  }

  /** Every array is the first value of a final field, or made in the constructor: no call makes any. */
  private static void roomIsMadeInConstructorsAlone(String code) {
    for (String row : code.split("\n")) {
      if (row.contains("new ")) {
        boolean ofField = row.matches("\\s*(private )?final .* = new int.*|\\s*(private )?final .* = new boolean.*");
        boolean inConstructor = row.matches("\\s*(net|search|halvings|pairedWith) = new .*");
        check(ofField || inConstructor, "a call makes an object: " + row.trim());
      }
    }
  }
}
