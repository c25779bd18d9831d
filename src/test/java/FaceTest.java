import java.lang.reflect.Constructor;
import java.lang.reflect.Field;
import java.lang.reflect.Method;
import java.lang.reflect.Modifier;
import java.util.Arrays;
import java.util.Set;
import java.util.TreeSet;

/** The face is the document's and no more, and no arguments make a call throw. */
public final class FaceTest {
  private static final String[] METHODS = {
    "int post(int)", "int line(int,int,int,boolean)", "boolean end(int)", "boolean terminal(int,boolean)",
    "boolean pair(int,int)", "boolean unpair(int,int)", "int cut(int,int)", "int cutPart(int,int,int)",
    "int terminals()", "int terminalPart(int)", "int apart()", "int apartPart(int)", "int sure(int)",
    "int pieces(int)", "int piece(int,int)", "int wholes()", "int whole(int,int)", "int regret()",
    "int regretPart(int)", "int bar(int,int)", "int bars(int,int)", "boolean bridge(int)",
    "boolean hinge(int)", "int count(int)"
  };
  private static final int[] ODD_NUMBERS = {
    Integer.MIN_VALUE, -33, -32, -1, 0, 1, 2, 8, 9, 23, 24, 31, 32, 33, 99, 100, 255, 256, Integer.MAX_VALUE
  };
  private static int wrong = 0;

  public static void main(String[] args) throws ReflectiveOperationException {
    face();
    for (int a : ODD_NUMBERS) {
      for (int b : ODD_NUMBERS) {
        ask(new NetCuts(), a, b);
        ask(smallNet(), a, b);
        ask(fullNet(), a, b);
      }
    }
    System.out.println(wrong == 0 ? "all answers are as due" : wrong + " answers are not as due");
    if (wrong != 0) {
      System.exit(1);
    }
  }

  private static void check(boolean good, String what) {
    if (!good) {
      wrong++;
      System.out.println(what);
    }
  }

  private static void face() throws ReflectiveOperationException {
    check(Modifier.isPublic(NetCuts.class.getModifiers()), "the class is not public");
    check(Modifier.isFinal(NetCuts.class.getModifiers()), "the class is not final");
    Set<String> found = new TreeSet<>();
    Set<String> hidden = new TreeSet<>();
    for (Method m : NetCuts.class.getDeclaredMethods()) {
      if (Modifier.isPrivate(m.getModifiers())) {
        hidden.add(m.getName());
      } else {
        check(m.getModifiers() == Modifier.PUBLIC, m + " is not plainly public");
        String types = Arrays.toString(m.getParameterTypes()).replaceAll("[\\[\\] ]", "");
        found.add(m.getReturnType() + " " + m.getName() + "(" + types + ")");
      }
    }
    check(found.equals(new TreeSet<>(Arrays.asList(METHODS))), "the face has the methods " + found);
    for (String method : METHODS) {
      String name = method.substring(method.indexOf(' ') + 1, method.indexOf('('));
      check(!hidden.contains(name), "a private method is named " + name);
    }
    for (Field f : NetCuts.class.getDeclaredFields()) {
      check(Modifier.isPrivate(f.getModifiers()) || f.getName().equals("NONE"), f + " is not private");
    }
    Field none = NetCuts.class.getField("NONE");
    check(none.getType() == int.class && none.getInt(null) == -1, "NONE is not the int -1");
    check(Modifier.isStatic(none.getModifiers()) && Modifier.isFinal(none.getModifiers()), "NONE can change");
    Constructor<?>[] makers = NetCuts.class.getDeclaredConstructors();
    check(makers.length == 1 && makers[0].getParameterCount() == 0
        && Modifier.isPublic(makers[0].getModifiers()), "the constructor is not the document's");
    for (Class<?> inside : NetCuts.class.getDeclaredClasses()) {
      check(Modifier.isStatic(inside.getModifiers()), inside + " is not static");
    }
  }

  private static NetCuts smallNet() {
    NetCuts x = new NetCuts();
    x.post(1);
    x.post(1);
    x.line(0, 1, 1, true);
    return x;
  }

  private static NetCuts fullNet() {
    NetCuts x = new NetCuts();
    for (int p = 0; p < 9; p++) {
      x.post(99);
    }
    for (int l = 0; l < 24; l++) {
      x.line(l % 9, (l + 1 + l / 9) % 9, 99, l % 2 == 0);
    }
    for (int p = 0; p < 8; p++) {
      x.pair(p, p + 1);
      x.terminal(p, true);
    }
    return x;
  }

  private static void ask(NetCuts x, int a, int b) {
    x.post(a);
    x.line(a, b, 100, true);
    x.line(0, 1, a, false);
    x.end(24 + Math.abs(a % 9));
    x.terminal(a, b > 0);
    x.pair(a, b);
    x.unpair(a, b);
    x.cut(a, b);
    x.cutPart(a, b, a);
    x.cutPart(0, 1, a);
    x.terminals();
    x.terminalPart(a);
    x.apart();
    x.apartPart(a);
    x.sure(a);
    x.pieces(a);
    x.piece(a, b);
    x.wholes();
    x.whole(a, b);
    x.regret();
    x.regretPart(a);
    x.bar(a, b);
    x.bars(a, b);
    x.bridge(a);
    x.hinge(a);
    x.count(a);
  }
}
