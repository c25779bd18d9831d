import java.util.ArrayList;
import java.util.List;

/**
 * 'What is refused changes nothing': in each of some states each call that the document refuses is
 * made on an object of its own. It answers NONE or false, and all that is asked and told after it
 * answers as it does on a twin that was never asked it. The same holds of a question that is answered.
 */
public final class RefusalTest {
  private static final int MOST_CALLS = 512;
  private static final int[] NEVER_POSTS =
      {Integer.MIN_VALUE, -32, -31, -1, 9, 31, 32, 33, 40, Integer.MAX_VALUE};
  private static final int[] NEVER_LINES = {Integer.MIN_VALUE, -1, 24, 32, Integer.MAX_VALUE};
  private static final int[] NEVER_POST_PRICES = {Integer.MIN_VALUE, -1, 0, 100, 257, Integer.MAX_VALUE};
  private static final int[] NEVER_LINE_PRICES = {Integer.MIN_VALUE, -1, 100, 256, Integer.MAX_VALUE};

  private static int refusals = 0;
  private static int questions = 0;
  private static int wrong = 0;

  public static void main(String[] args) {
    List<State> states = new ArrayList<>();
    states.add(new State("without posts", 0, 0));
    states.add(new State("with one post", 1, 0).terminals(0));
    states.add(new State("with two posts", 2, 0));
    states.add(new State("with two posts and a line", 2, 1).pairs(0, 1));
    states.add(new State("with five posts", 5, 7).ended(2, 6).terminals(1, 3, 4).pairs(0, 4, 2, 1));
    states.add(new State("with eight posts", 8, 23).ended(0).terminals(0, 7).pairs(0, 1, 1, 2, 2, 0, 3, 7));
    states.add(new State("full", 9, 24).terminals(0, 4, 8).pairs(0, 1, 0, 2, 0, 3, 0, 4, 5, 6, 6, 7, 7, 8, 8, 1));
    states.add(new State("full of what ended", 9, 24).ended(0, 1, 2, 3, 4, 5, 6, 7, 8, 9, 10, 11, 12, 13, 14, 15, 23)
        .terminals(0, 1, 2, 3, 4, 5, 6, 7, 8).pairs(8, 0, 8, 1, 8, 2, 8, 3, 8, 4, 8, 5, 8, 6, 8, 7));
    for (State s : states) {
      tryAll(s);
    }
    System.out.println(refusals + " refusals, " + questions + " questions: "
        + (wrong == 0 ? "all answers are as due" : wrong + " answers are not as due"));
    if (wrong != 0) {
      System.exit(1);
    }
  }

  private static void tryAll(State s) {
    List<Call> later = later(s);
    int[] dues = answers(s, null, later);
    for (Call refused : refused(s)) {
      refusals++;
      int answer = refused.on(s.build());
      if (answer != refused.whenRefused()) {
        complain(s, refused, "itself", answer, refused.whenRefused());
      }
      compare(s, refused, later, dues);
    }
    for (Call question : questions(s)) {
      questions++;
      compare(s, question, later, dues);
    }
  }

  private static void compare(State s, Call extra, List<Call> later, int[] dues) {
    int[] got = answers(s, extra, later);
    for (int i = 0; i < dues.length; i++) {
      if (got[i] != dues[i]) {
        complain(s, extra, later.get(i).toString(), got[i], dues[i]);
        return;
      }
    }
  }

  private static void complain(State s, Call extra, String later, int got, int want) {
    wrong++;
    if (wrong <= 40) {
      System.out.println(s.name + ": after " + extra + " " + later + " answered " + got + ", due is " + want);
    }
  }

  /** What is asked and told later answers, if the one call (or null) was made ahead of it. */
  private static int[] answers(State s, Call extra, List<Call> later) {
    if (s.calls() + 1 + later.size() > MOST_CALLS) {
      throw new IllegalStateException(s.name + ": more than 512 calls on one object");
    }
    NetCuts x = s.build();
    if (extra != null) {
      extra.on(x);
    }
    int[] answers = new int[later.size()];
    for (int i = 0; i < answers.length; i++) {
      answers[i] = later.get(i).on(x);
    }
    return answers;
  }

  // ---- what the document refuses in a state

  private static List<Call> refused(State s) {
    List<Call> all = new ArrayList<>();
    refusedPosts(s, all);
    refusedLines(s, all);
    refusedTerminals(s, all);
    refusedPairs(s, all);
    refusedQuestionsOfPosts(s, all);
    refusedQuestionsOfLines(s, all);
    return all;
  }

  private static void refusedPosts(State s, List<Call> all) {
    for (int price : NEVER_POST_PRICES) {
      all.add(new Call("post", price));
    }
    if (s.posts == 9) {
      all.add(new Call("post", 1));
      all.add(new Call("post", 99));
    }
  }

  private static void refusedLines(State s, List<Call> all) {
    int last = s.posts - 1;
    for (int p : s.noPosts()) {
      all.add(new Call("line", p, 0, 50, 1));
      all.add(new Call("line", 0, p, 50, 0));
      all.add(new Call("line", p, p, 50, 1));
    }
    for (int p = 0; p < s.posts; p++) {
      all.add(new Call("line", p, p, 50, 1));
    }
    for (int price : NEVER_LINE_PRICES) {
      all.add(new Call("line", 0, last, price, 1));
      all.add(new Call("line", last, 0, price, 0));
    }
    if (s.lines == 24) {
      all.add(new Call("line", 0, last, 0, 1));
      all.add(new Call("line", last, 0, 99, 0));
    }
    for (int l : s.noLines()) {
      all.add(new Call("end", l));
    }
  }

  private static void refusedTerminals(State s, List<Call> all) {
    for (int p : s.noPosts()) {
      all.add(new Call("terminal", p, 1));
      all.add(new Call("terminal", p, 0));
    }
    for (int p = 0; p < s.posts; p++) {
      all.add(new Call("terminal", p, s.isTerminal(p) ? 1 : 0));
    }
  }

  private static void refusedPairs(State s, List<Call> all) {
    for (String method : new String[] {"pair", "unpair"}) {
      for (int p : s.noPosts()) {
        all.add(new Call(method, p, 1));
        all.add(new Call(method, 0, p));
        all.add(new Call(method, p, p));
      }
      for (int p = 0; p < s.posts; p++) {
        all.add(new Call(method, p, p));
      }
    }
    for (int a = 0; a < s.posts; a++) {
      for (int b = 0; b < s.posts; b++) {
        if (a != b && s.isPair(a, b)) {
          all.add(new Call("pair", a, b));
        } else if (a != b) {
          all.add(new Call("unpair", a, b));
          if (s.pairs.length == 16) {
            all.add(new Call("pair", a, b));
          }
        }
      }
    }
  }

  private static void refusedQuestionsOfPosts(State s, List<Call> all) {
    for (String method : new String[] {"cut", "bar", "bars"}) {
      for (int p : s.noPosts()) {
        all.add(new Call(method, p, 0));
        all.add(new Call(method, 0, p));
      }
      for (int p = 0; p < s.posts; p++) {
        all.add(new Call(method, p, p));
      }
    }
    for (int p : s.noPosts()) {
      all.add(new Call("cutPart", 0, 1, p));
      all.add(new Call("cutPart", p, 0, 0));
      all.add(new Call("cutPart", 0, p, 0));
      all.add(new Call("terminalPart", p));
      all.add(new Call("apartPart", p));
      all.add(new Call("piece", 1, p));
      all.add(new Call("whole", 0, p));
      all.add(new Call("regretPart", p));
      all.add(new Call("hinge", p));
    }
    for (int k : new int[] {Integer.MIN_VALUE, -1, 0, s.posts + 1, 10, Integer.MAX_VALUE}) {
      all.add(new Call("pieces", k));
      all.add(new Call("piece", k, 0));
    }
    if (s.posts == 0) {
      all.add(new Call("terminals"));
      all.add(new Call("apart"));
      all.add(new Call("regret"));
    }
  }

  private static void refusedQuestionsOfLines(State s, List<Call> all) {
    for (int l : s.noLines()) {
      all.add(new Call("sure", l));
      all.add(new Call("bridge", l));
    }
    for (int i : new int[] {Integer.MIN_VALUE, -1, 255, 256, Integer.MAX_VALUE}) {
      all.add(new Call("whole", i, 0));
    }
    for (int what : new int[] {Integer.MIN_VALUE, -1, 5, Integer.MAX_VALUE}) {
      all.add(new Call("count", what));
    }
  }

  // ---- what is asked and told after it

  private static List<Call> later(State s) {
    List<Call> all = questions(s);
    int last = s.posts - 1;
    all.add(new Call("post", 7));
    all.add(new Call("line", 0, 1, 3, 0));
    all.add(new Call("line", last, 0, 2, 1));
    all.add(new Call("end", 0));
    all.add(new Call("end", s.lines));
    all.add(new Call("terminal", last, 1));
    all.add(new Call("terminal", s.posts, 1));
    all.add(new Call("terminal", 0, 0));
    all.add(new Call("unpair", 0, 1));
    all.add(new Call("pair", 1, last));
    all.add(new Call("pair", 0, 2));
    all.add(new Call("pair", s.posts, 0));
    all.addAll(questionsOfTheWhole(s.posts + 1));
    return all;
  }

  private static List<Call> questions(State s) {
    List<Call> all = questionsOfTheWhole(s.posts);
    for (int a = 0; a < s.posts; a++) {
      for (int b = 0; b < a; b++) {
        all.add(new Call("cut", a, b));
        all.add(new Call("bar", b, a));
        all.add(new Call("bars", a, b));
      }
      all.add(new Call("cutPart", 0, s.posts - 1, a));
      all.add(new Call("piece", 2, a));
      all.add(new Call("piece", 3, a));
      all.add(new Call("whole", 0, a));
      all.add(new Call("whole", 1, a));
      all.add(new Call("hinge", a));
    }
    for (int l = 0; l < s.lines; l++) {
      all.add(new Call("sure", l));
      all.add(new Call("bridge", l));
    }
    return all;
  }

  private static List<Call> questionsOfTheWhole(int posts) {
    List<Call> all = new ArrayList<>();
    for (int what = 0; what <= 4; what++) {
      all.add(new Call("count", what));
    }
    all.add(new Call("terminals"));
    all.add(new Call("apart"));
    all.add(new Call("wholes"));
    all.add(new Call("regret"));
    for (int p = 0; p < posts; p++) {
      all.add(new Call("terminalPart", p));
      all.add(new Call("apartPart", p));
      all.add(new Call("regretPart", p));
      all.add(new Call("pieces", p + 1));
    }
    return all;
  }

  /** A net that was told: which calls made it, and what the document refuses in it. */
  private static final class State {
    final String name;
    final int posts;
    final int lines;
    int[] ended = {};
    int[] terminals = {};
    /** Two after two. */
    int[] pairs = {};

    State(String name, int posts, int lines) {
      this.name = name;
      this.posts = posts;
      this.lines = lines;
    }

    State ended(int... which) {
      ended = which;
      return this;
    }

    State terminals(int... which) {
      terminals = which;
      return this;
    }

    State pairs(int... which) {
      pairs = which;
      return this;
    }

    /** How many calls build() makes, those to count too. */
    int calls() {
      return posts + lines + ended.length + terminals.length + pairs.length / 2 + 4;
    }

    NetCuts build() {
      NetCuts x = new NetCuts();
      for (int p = 0; p < posts; p++) {
        x.post(1 + (p * 5) % 7);
      }
      for (int l = 0; l < lines; l++) {
        x.line(l % posts, (l + 1 + l / posts) % posts, (l * 7) % 11, l % 3 != 0);
      }
      for (int l : ended) {
        x.end(l);
      }
      for (int p : terminals) {
        x.terminal(p, true);
      }
      for (int i = 0; i + 1 < pairs.length; i += 2) {
        x.pair(pairs[i], pairs[i + 1]);
      }
      if (x.count(0) != posts || x.count(1) != lines - ended.length
          || x.count(2) != terminals.length || x.count(3) != pairs.length / 2) {
        throw new IllegalStateException(name + ": the state was not told as it should be");
      }
      return x;
    }

    boolean isTerminal(int post) {
      return holds(terminals, post);
    }

    boolean isPair(int a, int b) {
      for (int i = 0; i + 1 < pairs.length; i += 2) {
        if (pairs[i] == a && pairs[i + 1] == b || pairs[i] == b && pairs[i + 1] == a) {
          return true;
        }
      }
      return false;
    }

    List<Integer> noPosts() {
      List<Integer> all = new ArrayList<>();
      for (int p : NEVER_POSTS) {
        all.add(p);
      }
      for (int p = posts; p < 9; p++) {
        all.add(p);
      }
      return all;
    }

    List<Integer> noLines() {
      List<Integer> all = new ArrayList<>();
      for (int l : NEVER_LINES) {
        all.add(l);
      }
      for (int l : ended) {
        all.add(l);
      }
      for (int l = lines; l < 24; l++) {
        all.add(l);
      }
      return all;
    }

    private static boolean holds(int[] some, int one) {
      for (int each : some) {
        if (each == one) {
          return true;
        }
      }
      return false;
    }
  }

  /** A call with its arguments; a boolean, told or answered, is 1 or 0. */
  private static final class Call {
    final String method;
    final int[] args;

    Call(String method, int... args) {
      this.method = method;
      this.args = args;
    }

    @Override
    public String toString() {
      StringBuilder text = new StringBuilder(method).append('(');
      for (int i = 0; i < args.length; i++) {
        text.append(i == 0 ? "" : ",").append(args[i]);
      }
      return text.append(')').toString();
    }

    int whenRefused() {
      switch (method) {
        case "end": case "terminal": case "pair": case "unpair": case "bridge": case "hinge":
          return 0;
        default:
          return -1;
      }
    }

    int on(NetCuts x) {
      switch (method) {
        case "post": return x.post(args[0]);
        case "line": return x.line(args[0], args[1], args[2], args[3] == 1);
        case "end": return x.end(args[0]) ? 1 : 0;
        case "terminal": return x.terminal(args[0], args[1] == 1) ? 1 : 0;
        case "pair": return x.pair(args[0], args[1]) ? 1 : 0;
        case "unpair": return x.unpair(args[0], args[1]) ? 1 : 0;
        case "cut": return x.cut(args[0], args[1]);
        case "cutPart": return x.cutPart(args[0], args[1], args[2]);
        case "terminals": return x.terminals();
        case "terminalPart": return x.terminalPart(args[0]);
        case "apart": return x.apart();
        case "apartPart": return x.apartPart(args[0]);
        case "sure": return x.sure(args[0]);
        case "pieces": return x.pieces(args[0]);
        case "piece": return x.piece(args[0], args[1]);
        case "wholes": return x.wholes();
        case "whole": return x.whole(args[0], args[1]);
        case "regret": return x.regret();
        case "regretPart": return x.regretPart(args[0]);
        case "bar": return x.bar(args[0], args[1]);
        case "bars": return x.bars(args[0], args[1]);
        case "bridge": return x.bridge(args[0]) ? 1 : 0;
        case "hinge": return x.hinge(args[0]) ? 1 : 0;
        case "count": return x.count(args[0]);
        default: throw new IllegalStateException("no such call: " + method);
      }
    }
  }
}
