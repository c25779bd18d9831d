import java.util.ArrayList;
import java.util.List;
import java.util.Random;

/** Long runs of calls with fixed seeds, each answer held against a slow model that tries everything. */
public final class OracleTest {
  private static final int LONGEST_RUN = 500;
  private static int wrong = 0;

  public static void main(String[] args) {
    for (int seed = 1; seed <= 300; seed++) {
      run(seed, 1 + seed % 6, 1 + seed % 4);
    }
    for (int seed = 301; seed <= 340; seed++) {
      run(seed, 7, seed % 2 == 0 ? 99 : 3);
    }
    for (int seed = 341; seed <= 356; seed++) {
      run(seed, 9, seed % 3 == 0 ? 99 : seed % 3 == 1 ? 6 : 1);
    }
    System.out.println(wrong == 0 ? "all answers are as due" : wrong + " answers are not as due");
    if (wrong != 0) {
      System.exit(1);
    }
  }

  private static void run(int seed, int mostPosts, int mostPrice) {
    Random r = new Random(seed);
    NetCuts x = new NetCuts();
    Model m = new Model();
    StringBuilder told = new StringBuilder();
    if (seed % 5 != 0) {
      layNet(r, x, m, mostPosts, mostPrice, told);
    }
    for (int i = told.length() == 0 ? 0 : 40; i < LONGEST_RUN; i++) {
      String call = step(r, x, m, mostPosts, mostPrice);
      if (!call.isEmpty()) {
        wrong++;
        if (wrong <= 20) {
          System.out.println("seed " + seed + ", call " + i + ": " + call + " after " + told);
        }
        return;
      }
      if (m.lastChange != null) {
        told.append(m.lastChange).append("; ");
        m.lastChange = null;
      }
    }
  }

  /** All posts ahead and then some lines, so that lines don't fall among the first few posts alone. */
  private static void layNet(Random r, NetCuts x, Model m, int mostPosts, int mostPrice, StringBuilder told) {
    for (int p = 0; p < mostPosts; p++) {
      int price = 1 + r.nextInt(mostPrice);
      x.post(price);
      m.post(price);
      told.append(m.lastChange).append("; ");
    }
    int lines = mostPosts < 2 ? 0 : r.nextInt(25);
    for (int l = 0; l < lines; l++) {
      int a = r.nextInt(mostPosts);
      int b = (a + 1 + r.nextInt(mostPosts - 1)) % mostPosts;
      int price = r.nextInt(mostPrice + 1);
      boolean liking = r.nextBoolean();
      x.line(a, b, price, liking);
      m.line(a, b, price, liking);
      told.append(m.lastChange).append("; ");
    }
    m.lastChange = null;
  }

  /** One call on both; empty if they agree. */
  private static String step(Random r, NetCuts x, Model m, int mostPosts, int mostPrice) {
    int n = m.posts.size();
    int a = r.nextInt(n + 2) - (r.nextInt(12) == 0 ? 1 : 0);
    int b = r.nextInt(n + 2) - (r.nextInt(12) == 0 ? 1 : 0);
    int p = r.nextInt(n + 1) - (r.nextInt(20) == 0 ? 1 : 0);
    int l = r.nextInt(m.lines.size() + 1) - (r.nextInt(20) == 0 ? 1 : 0);
    int price = r.nextInt(30) == 0 ? 98 + r.nextInt(4) : r.nextInt(mostPrice + 2) - (r.nextInt(9) == 0 ? 1 : 0);
    boolean flag = r.nextBoolean();
    switch (r.nextInt(30)) {
      case 0: return n < mostPosts || mostPosts == 9
          ? same("post(" + price + ")", x.post(price), m.post(price)) : "";
      case 1: case 2: case 3: case 4:
        return same("line(" + a + "," + b + "," + price + "," + flag + ")",
            x.line(a, b, price, flag), m.line(a, b, price, flag));
      case 5: return r.nextInt(3) == 0 ? same("end(" + l + ")", x.end(l) ? 1 : 0, m.end(l) ? 1 : 0) : "";
      case 6: return same("terminal(" + p + "," + flag + ")", x.terminal(p, flag) ? 1 : 0, m.terminal(p, flag) ? 1 : 0);
      case 7: return same("pair(" + a + "," + b + ")", x.pair(a, b) ? 1 : 0, m.pair(a, b) ? 1 : 0);
      case 8: return same("unpair(" + a + "," + b + ")", x.unpair(a, b) ? 1 : 0, m.unpair(a, b) ? 1 : 0);
      case 9: return same("cut(" + a + "," + b + ")", x.cut(a, b), m.cut(a, b));
      case 10: return same("cutPart(" + a + "," + b + "," + p + ")", x.cutPart(a, b, p), m.cutPart(a, b, p));
      case 11: return same("terminals()", x.terminals(), m.terminals());
      case 12: return same("terminalPart(" + p + ")", x.terminalPart(p), m.terminalPart(p));
      case 13: return same("apart()", x.apart(), m.apart());
      case 14: return same("apartPart(" + p + ")", x.apartPart(p), m.apartPart(p));
      case 15: case 16: return same("sure(" + l + ")", x.sure(l), m.sure(l));
      case 17: return same("pieces(" + a + ")", x.pieces(a), m.pieces(a));
      case 18: return same("piece(" + a + "," + p + ")", x.piece(a, p), m.piece(a, p));
      case 19: return same("wholes()", x.wholes(), m.wholes());
      case 20: {
        int i = r.nextInt(m.wholes() + 2) - 1;
        return same("whole(" + i + "," + p + ")", x.whole(i, p), m.whole(i, p));
      }
      case 21: return same("regret()", x.regret(), m.regret());
      case 22: return same("regretPart(" + p + ")", x.regretPart(p), m.regretPart(p));
      case 23: case 24: return same("bar(" + a + "," + b + ")", x.bar(a, b), m.bar(a, b));
      case 25: case 26: return same("bars(" + a + "," + b + ")", x.bars(a, b), m.bars(a, b));
      case 27: return same("bridge(" + l + ")", x.bridge(l) ? 1 : 0, m.bridge(l) ? 1 : 0);
      case 28: return same("hinge(" + p + ")", x.hinge(p) ? 1 : 0, m.hinge(p) ? 1 : 0);
      default: {
        int what = r.nextInt(7) - 1;
        return same("count(" + what + ")", x.count(what), m.count(what));
      }
    }
  }

  private static String same(String call, int got, int want) {
    return got == want ? "" : call + " answered " + got + ", due is " + want;
  }

  /** A line as it was told. */
  private static final class Line {
    final int a;
    final int b;
    final int price;
    final boolean liking;
    boolean ended = false;

    Line(int a, int b, int price, boolean liking) {
      this.a = a;
      this.b = b;
      this.price = price;
      this.liking = liking;
    }
  }

  /** Which partings a question is about. */
  private interface Rule {
    boolean allows(int[] parting);
  }

  /** The document's words, done by trying every parting, heap and way. */
  private static final class Model {
    private static final List<List<int[]>> PARTINGS = new ArrayList<>();
    final List<Integer> posts = new ArrayList<>();
    final List<Line> lines = new ArrayList<>();
    final boolean[] terminals = new boolean[9];
    final List<int[]> pairs = new ArrayList<>();
    String lastChange = null;

    static {
      for (int n = 0; n <= 9; n++) {
        List<int[]> all = new ArrayList<>();
        fill(all, new int[n], 0);
        PARTINGS.add(all);
      }
    }

    private static void fill(List<int[]> all, int[] parting, int post) {
      if (post == parting.length) {
        all.add(parting.clone());
        return;
      }
      int fresh = 0;
      for (int p = 0; p < post; p++) {
        fresh = Math.max(fresh, parting[p] + 1);
      }
      for (int q = 0; q <= fresh; q++) {
        parting[post] = q;
        fill(all, parting, post + 1);
      }
    }

    private boolean isPost(int p) {
      return 0 <= p && p < posts.size();
    }

    private boolean isTwo(int a, int b) {
      return isPost(a) && isPost(b) && a != b;
    }

    private boolean isLine(int l) {
      return 0 <= l && l < lines.size() && !lines.get(l).ended;
    }

    int post(int price) {
      if (price < 1 || price > 99 || posts.size() == 9) {
        return -1;
      }
      posts.add(price);
      lastChange = "post(" + price + ")";
      return posts.size() - 1;
    }

    int line(int a, int b, int price, boolean liking) {
      if (!isTwo(a, b) || price < 0 || price > 99 || lines.size() == 24) {
        return -1;
      }
      lines.add(new Line(a, b, price, liking));
      lastChange = "line(" + a + "," + b + "," + price + "," + liking + ")";
      return lines.size() - 1;
    }

    boolean end(int l) {
      if (!isLine(l)) {
        return false;
      }
      lines.get(l).ended = true;
      lastChange = "end(" + l + ")";
      return true;
    }

    boolean terminal(int p, boolean is) {
      if (!isPost(p) || terminals[p] == is) {
        return false;
      }
      terminals[p] = is;
      lastChange = "terminal(" + p + "," + is + ")";
      return true;
    }

    private int pairAt(int a, int b) {
      for (int i = 0; i < pairs.size(); i++) {
        int[] two = pairs.get(i);
        if (two[0] == a && two[1] == b || two[0] == b && two[1] == a) {
          return i;
        }
      }
      return -1;
    }

    boolean pair(int a, int b) {
      if (!isTwo(a, b) || pairAt(a, b) >= 0 || pairs.size() == 8) {
        return false;
      }
      pairs.add(new int[] {a, b});
      lastChange = "pair(" + a + "," + b + ")";
      return true;
    }

    boolean unpair(int a, int b) {
      if (pairAt(a, b) < 0) {
        return false;
      }
      pairs.remove(pairAt(a, b));
      lastChange = "unpair(" + a + "," + b + ")";
      return true;
    }

    private int sum(int[] parting) {
      int sum = 0;
      for (Line l : lines) {
        if (!l.ended && parting[l.a] != parting[l.b]) {
          sum += l.price;
        }
      }
      return sum;
    }

    private int regretOf(int[] parting) {
      int sum = 0;
      for (Line l : lines) {
        boolean isCut = parting[l.a] != parting[l.b];
        if (!l.ended && isCut == l.liking) {
          sum += l.price;
        }
      }
      return sum;
    }

    /** All allowed partings with the least sum, in order. */
    private List<int[]> best(Rule rule) {
      List<int[]> best = new ArrayList<>();
      int least = Integer.MAX_VALUE;
      for (int[] parting : PARTINGS.get(posts.size())) {
        if (rule.allows(parting)) {
          int sum = sum(parting);
          if (sum < least) {
            least = sum;
            best.clear();
          }
          if (sum == least) {
            best.add(parting);
          }
        }
      }
      return best;
    }

    private static int parts(int[] parting) {
      int parts = 0;
      for (int q : parting) {
        parts = Math.max(parts, q + 1);
      }
      return parts;
    }

    private boolean partsTerminals(int[] parting) {
      for (int a = 0; a < parting.length; a++) {
        for (int b = a + 1; b < parting.length; b++) {
          if (terminals[a] && terminals[b] && parting[a] == parting[b]) {
            return false;
          }
        }
      }
      return true;
    }

    private boolean partsPairs(int[] parting) {
      for (int[] two : pairs) {
        if (parting[two[0]] == parting[two[1]]) {
          return false;
        }
      }
      return true;
    }

    int cut(int a, int b) {
      return isTwo(a, b) ? sum(best(g -> g[a] != g[b]).get(0)) : -1;
    }

    int cutPart(int a, int b, int p) {
      return isTwo(a, b) && isPost(p) ? best(g -> g[a] != g[b]).get(0)[p] : -1;
    }

    int terminals() {
      return posts.isEmpty() ? -1 : sum(best(this::partsTerminals).get(0));
    }

    int terminalPart(int p) {
      return isPost(p) ? best(this::partsTerminals).get(0)[p] : -1;
    }

    int apart() {
      return posts.isEmpty() ? -1 : sum(best(this::partsPairs).get(0));
    }

    int apartPart(int p) {
      return isPost(p) ? best(this::partsPairs).get(0)[p] : -1;
    }

    int sure(int l) {
      if (!isLine(l)) {
        return -1;
      }
      Line line = lines.get(l);
      boolean all = true;
      boolean some = false;
      for (int[] parting : best(this::partsPairs)) {
        boolean isCut = parting[line.a] != parting[line.b];
        all &= isCut;
        some |= isCut;
      }
      return all ? 2 : some ? 1 : 0;
    }

    int pieces(int k) {
      return k >= 1 && k <= posts.size() ? sum(best(g -> parts(g) == k).get(0)) : -1;
    }

    int piece(int k, int p) {
      return k >= 1 && k <= posts.size() && isPost(p) ? best(g -> parts(g) == k).get(0)[p] : -1;
    }

    int wholes() {
      return best(g -> parts(g) == 2).size();
    }

    int whole(int i, int p) {
      return i >= 0 && i < wholes() && isPost(p) ? best(g -> parts(g) == 2).get(i)[p] : -1;
    }

    private int[] leastRegret() {
      int[] best = null;
      for (int[] parting : PARTINGS.get(posts.size())) {
        if (best == null || regretOf(parting) < regretOf(best)) {
          best = parting;
        }
      }
      return best;
    }

    int regret() {
      return posts.isEmpty() ? -1 : regretOf(leastRegret());
    }

    int regretPart(int p) {
      return isPost(p) ? leastRegret()[p] : -1;
    }

    /** Whether a way leads from a to b when a line (or -1) and the posts of a heap are gone. */
    private boolean way(int a, int b, int withoutLine, int gone) {
      if (a == b) {
        return true;
      }
      for (int l = 0; l < lines.size(); l++) {
        Line line = lines.get(l);
        if (!line.ended && l != withoutLine && (line.a == a || line.b == a)) {
          int next = line.a + line.b - a;
          if ((gone >> next & 1) == 0 && way(next, b, withoutLine, gone | 1 << a)) {
            return true;
          }
        }
      }
      return false;
    }

    private int priceOf(int heap) {
      int sum = 0;
      for (int p = 0; p < posts.size(); p++) {
        sum += (heap >> p & 1) * posts.get(p);
      }
      return sum;
    }

    int bars(int a, int b) {
      int best = -1;
      if (!isTwo(a, b)) {
        return -1;
      }
      for (int heap = (1 << posts.size()) - 1; heap >= 0; heap--) {
        boolean free = (heap >> a & 1) == 0 && (heap >> b & 1) == 0;
        if (free && !way(a, b, -1, heap) && (best < 0 || priceOf(heap) <= priceOf(best))) {
          best = heap;
        }
      }
      return best;
    }

    int bar(int a, int b) {
      int heap = bars(a, b);
      return heap < 0 ? -1 : priceOf(heap);
    }

    boolean bridge(int l) {
      if (!isLine(l)) {
        return false;
      }
      for (int a = 0; a < posts.size(); a++) {
        for (int b = 0; b < a; b++) {
          if (way(a, b, -1, 0) && !way(a, b, l, 0)) {
            return true;
          }
        }
      }
      return false;
    }

    boolean hinge(int p) {
      if (!isPost(p)) {
        return false;
      }
      for (int a = 0; a < posts.size(); a++) {
        for (int b = 0; b < a; b++) {
          if (a != p && b != p && way(a, b, -1, 0) && !way(a, b, -1, 1 << p)) {
            return true;
          }
        }
      }
      return false;
    }

    int count(int what) {
      int n = 0;
      switch (what) {
        case 0: return posts.size();
        case 1:
          for (Line l : lines) {
            n += l.ended ? 0 : 1;
          }
          return n;
        case 2:
          for (boolean is : terminals) {
            n += is ? 1 : 0;
          }
          return n;
        case 3: return pairs.size();
        case 4:
          for (int p = 0; p < posts.size(); p++) {
            boolean first = true;
            for (int q = 0; q < p; q++) {
              first &= !way(p, q, -1, 0);
            }
            n += first ? 1 : 0;
          }
          return n;
        default: return -1;
      }
    }
  }
}
