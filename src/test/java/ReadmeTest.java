import java.io.IOException;
import java.lang.reflect.InvocationTargetException;
import java.lang.reflect.Method;
import java.lang.reflect.Modifier;
import java.nio.file.Files;
import java.nio.file.Path;
import java.util.Set;
import java.util.TreeSet;
import java.util.regex.Matcher;
import java.util.regex.Pattern;

/** The example in README.md, read from the project's directory, says what the class does. */
public final class ReadmeTest {
  private static final Pattern CALL = Pattern.compile("net\\.(\\w+)\\(([^)]*)\\);(?:\\s*//\\s*([^\\s:]+).*)?");
  private static int wrong = 0;

  public static void main(String[] args) throws IOException, ReflectiveOperationException {
    String readme = Files.readString(Path.of("README.md"));
    int start = readme.indexOf("```java\n");
    int end = readme.indexOf("\n```", start + 1);
    check(start >= 0 && end > start, "README.md has no example");
    if (wrong == 0) {
      follow(readme.substring(start, end));
    }
    System.out.println(wrong == 0 ? "all answers are as due" : wrong + " answers are not as due");
    if (wrong != 0) {
      System.exit(1);
    }
  }

  private static void check(boolean good, String what) {
    if (!good) {
      wrong++;
      System.out.println(what);
    }
  }

  private static void follow(String example) throws ReflectiveOperationException {
    NetCuts net = new NetCuts();
    Set<String> unused = new TreeSet<>();
    for (Method m : NetCuts.class.getDeclaredMethods()) {
      if (Modifier.isPublic(m.getModifiers())) {
        unused.add(m.getName());
      }
    }
    for (String row : example.split("\n")) {
      if (row.startsWith("net.")) {
        Matcher m = CALL.matcher(row);
        boolean read = m.matches() && m.group(3) != null;
        check(read, "a call without its answer: " + row);
        if (read) {
          unused.remove(m.group(1));
          String got = answer(net, m.group(1), m.group(2));
          String due = m.group(3).equals("NONE") ? String.valueOf(NetCuts.NONE) : m.group(3);
          check(got.equals(due), row + " .. answered " + got);
        }
      }
    }
    check(unused.isEmpty(), "the example doesn't use " + unused);
  }

  /** No two public methods have one name, so that the name alone tells which is meant. */
  private static String answer(NetCuts net, String name, String arguments) throws ReflectiveOperationException {
    String[] words = arguments.isBlank() ? new String[0] : arguments.split(",\\s*");
    for (Method m : NetCuts.class.getDeclaredMethods()) {
      if (m.getName().equals(name) && Modifier.isPublic(m.getModifiers()) && m.getParameterCount() == words.length) {
        Object[] values = new Object[words.length];
        for (int i = 0; i < words.length; i++) {
          boolean isFlag = m.getParameterTypes()[i] == boolean.class;
          values[i] = isFlag ? (Object) Boolean.valueOf(words[i]) : (Object) Integer.valueOf(words[i]);
        }
        try {
          return String.valueOf(m.invoke(net, values));
        } catch (InvocationTargetException e) {
          return "with " + e.getCause();
        }
      }
    }
    return "nothing: there is no such method";
  }
}
