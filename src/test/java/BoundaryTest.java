import java.util.function.IntUnaryOperator;

/**
 * Each sentence of the document that names a boundary case has a test of its own here, under the
 * document's words. What a refused call leaves behind is RefusalTest's.
 */
public final class BoundaryTest {
  /** No posts of any net: below 0, above the last of 9, and what a shift by bits would take for 0 or 1. */
  private static final int[] NEVER_POSTS =
      {Integer.MIN_VALUE, -33, -32, -31, -1, 9, 31, 32, 33, 64, Integer.MAX_VALUE};
  /** No lines of any net, likewise. */
  private static final int[] NEVER_LINES = {Integer.MIN_VALUE, -24, -1, 24, 25, 32, 64, Integer.MAX_VALUE};
  private static final int ALL_LINES = 24;
  private static final int ALL_POSTS = 9;
  private static final int MOST_SUM = ALL_LINES * 99;

  private static String sentence = "";
  private static int tests = 0;
  private static int wrong = 0;

  public static void main(String[] args) {
    lifeOf512Calls();
    newObject();
    posts();
    lines();
    linesOfAllPrices();
    ends();
    endedCountsNoMore();
    endedHoldsNothing();
    terminalsTold();
    pairsTold();
    pairsGone();
    partingsAndSums();
    firstOfLikeOnes();
    cuts();
    cutParts();
    terminalCuts();
    terminalParts();
    pairCuts();
    pairParts();
    sureLines();
    sureOnlyByPairs();
    pieceSums();
    pieceParts();
    wholeCounts();
    wholePartings();
    regrets();
    regretParts();
    barSums();
    barHeaps();
    bridges();
    hinges();
    counts();
    System.out.println(tests + " tests: "
        + (wrong == 0 ? "all answers are as due" : wrong + " answers are not as due"));
    if (wrong != 0) {
      System.exit(1);
    }
  }

  // ---- helpers

  private static void test(String words, Runnable body) {
    sentence = words;
    tests++;
    body.run();
  }

  private static void due(String call, String got, String want) {
    if (!got.equals(want)) {
      wrong++;
      System.out.println(sentence + ": " + call + " answered " + got + ", due is " + want);
    }
  }

  private static void due(String call, int got, int want) {
    due(call, Integer.toString(got), Integer.toString(want));
  }

  private static void due(String call, boolean got, boolean want) {
    due(call, Boolean.toString(got), Boolean.toString(want));
  }

  private static NetCuts net(int posts) {
    NetCuts x = new NetCuts();
    for (int p = 0; p < posts; p++) {
      x.post(1);
    }
    return x;
  }

  private static NetCuts priced(int... prices) {
    NetCuts x = new NetCuts();
    for (int price : prices) {
      x.post(price);
    }
    return x;
  }

  /** Likings, each told as from, to, price. */
  private static NetCuts like(NetCuts x, int[]... lines) {
    for (int[] l : lines) {
      x.line(l[0], l[1], l[2], true);
    }
    return x;
  }

  private static NetCuts quarrel(NetCuts x, int[]... lines) {
    for (int[] l : lines) {
      x.line(l[0], l[1], l[2], false);
    }
    return x;
  }

  private static int[] l(int a, int b, int price) {
    return new int[] {a, b, price};
  }

  /** 0 - 1 - 2 with the prices 5 and 3. */
  private static NetCuts chain() {
    return like(net(3), l(0, 1, 5), l(1, 2, 3));
  }

  /** 0 - 1 - 2 with the prices 4 and 4. */
  private static NetCuts evenChain() {
    return like(net(3), l(0, 1, 4), l(1, 2, 4));
  }

  private static NetCuts triangle() {
    return like(net(3), l(0, 1, 1), l(1, 2, 1), l(0, 2, 1));
  }

  /** All 9 posts and all 24 lines, each of price 99: no parting in nine parts leaves one uncut. */
  private static NetCuts dearest() {
    NetCuts x = net(ALL_POSTS);
    for (int i = 0; i < ALL_LINES; i++) {
      x.line(i % 9, (i + 1 + i / 9) % 9, 99, true);
    }
    return x;
  }

  private static void tellTerminals(NetCuts x, int... posts) {
    for (int p : posts) {
      x.terminal(p, true);
    }
  }

  private static String parting(int posts, IntUnaryOperator partOf) {
    StringBuilder parts = new StringBuilder();
    for (int p = 0; p < posts; p++) {
      parts.append(partOf.applyAsInt(p));
    }
    return parts.toString();
  }

  private static String cutOf(NetCuts x, int a, int b) {
    return parting(x.count(0), p -> x.cutPart(a, b, p));
  }

  private static String terminalsOf(NetCuts x) {
    return parting(x.count(0), x::terminalPart);
  }

  private static String apartOf(NetCuts x) {
    return parting(x.count(0), x::apartPart);
  }

  private static String pieceOf(NetCuts x, int k) {
    return parting(x.count(0), p -> x.piece(k, p));
  }

  private static String regretOf(NetCuts x) {
    return parting(x.count(0), x::regretPart);
  }

  private static String wholesOf(NetCuts x) {
    StringBuilder all = new StringBuilder();
    for (int i = 0; i < x.wholes(); i++) {
      int which = i;
      all.append(i == 0 ? "" : " ").append(parting(x.count(0), p -> x.whole(which, p)));
    }
    return all.toString();
  }

  // ---- What it is

  private static void lifeOf512Calls() {
    test("at most 512 calls: the 512th still answers, all others being the dearest", () -> {
      NetCuts x = dearest();
      // Five POSTS in one PART have at most 9 LINES among them, and no other five PARTS hold more.
      int right = 0;
      for (int call = 34; call < 512; call++) {
        right += x.pieces(5) == 15 * 99 ? 1 : 0;
      }
      due("how many of the calls 34 .. 511, pieces(5), that were right,", right, 478);
      due("call 512, pieces(9)", x.pieces(9), MOST_SUM);
    });
    test("at most 512 calls: the 512th still changes the net", () -> {
      NetCuts x = net(2);
      for (int call = 3; call < 512; call++) {
        x.cut(0, 1);
      }
      due("call 512, post(1)", x.post(1), 2);
    });
    test("at most 512 calls: a PAIR may come and go in all of them", () -> {
      NetCuts x = net(2);
      for (int call = 3; call < 511; call += 2) {
        due("call " + call + ", pair(0,1)", x.pair(0, 1), true);
        due("call " + (call + 1) + ", unpair(1,0)", x.unpair(1, 0), true);
      }
      due("call 511, pair(1,0)", x.pair(1, 0), true);
      due("call 512, count(3)", x.count(3), 1);
    });
    test("at most 512 calls: a POST may be a TERMINAL and none in all of them", () -> {
      NetCuts x = net(2);
      for (int call = 3; call < 511; call += 2) {
        due("call " + call + ", terminal(1,true)", x.terminal(1, true), true);
        due("call " + (call + 1) + ", terminal(1,false)", x.terminal(1, false), true);
      }
      due("call 511, terminal(1,true)", x.terminal(1, true), true);
      due("call 512, count(2)", x.count(2), 1);
    });
  }

  // ---- Promise 1

  private static void newObject() {
    test("NONE = -1", () -> due("NONE", NetCuts.NONE, -1));
    test("P1 No POSTS", () -> due("count(0)", new NetCuts().count(0), 0));
    test("P1 No POSTS: nor LINES", () -> due("count(1)", new NetCuts().count(1), 0));
    test("P1 No POSTS: nor TERMINALS", () -> due("count(2)", new NetCuts().count(2), 0));
    test("P1 No POSTS: nor PAIRS", () -> due("count(3)", new NetCuts().count(3), 0));
    test("P1 A new object has nothing of an earlier one", () -> {
      NetCuts earlier = dearest();
      tellTerminals(earlier, 0, 1);
      earlier.pair(0, 1);
      NetCuts x = net(2);
      due("count(1)", x.count(1), 0);
      due("count(2)", x.count(2), 0);
      due("count(3)", x.count(3), 0);
      due("count(0) of the earlier", earlier.count(0), 9);
    });
  }

  // ---- Promise 2

  private static void posts() {
    test("P2 A POST comes: its number, as they come", () -> {
      NetCuts x = new NetCuts();
      for (int p = 0; p < 9; p++) {
        due("post(" + (p + 1) + ")", x.post(p + 1), p);
      }
    });
    test("P2 the PRICE 1 can be", () -> due("post(1)", new NetCuts().post(1), 0));
    test("P2 the PRICE 99 can be", () -> due("post(99)", new NetCuts().post(99), 0));
    test("P2 NONE if the PRICE can't be: 0", () -> due("post(0)", new NetCuts().post(0), -1));
    test("P2 NONE if the PRICE can't be: 100", () -> due("post(100)", new NetCuts().post(100), -1));
    test("P2 NONE if the PRICE can't be: below 0", () -> {
      for (int price : new int[] {-1, -99, -255, -65535, Integer.MIN_VALUE, Integer.MIN_VALUE + 1}) {
        due("post(" + price + ")", new NetCuts().post(price), -1);
      }
    });
    test("P2 NONE if the PRICE can't be: far above, and one that would wrap around to 1", () -> {
      for (int price : new int[] {101, 129, 257, 65537, Integer.MAX_VALUE}) {
        due("post(" + price + ")", new NetCuts().post(price), -1);
      }
    });
    test("P2 NONE if 9 came", () -> {
      NetCuts x = net(9);
      due("post(1)", x.post(1), -1);
      due("post(99)", x.post(99), -1);
      due("count(0)", x.count(0), 9);
    });
    test("P2 the ninth comes", () -> due("post(1)", net(8).post(1), 8));
    test("P2 one that was refused has no number", () -> {
      NetCuts x = net(1);
      x.post(0);
      x.post(100);
      due("post(1)", x.post(1), 1);
    });
  }

  // ---- Promise 3

  private static void lines() {
    test("P3 A LINE comes: its number, as they come", () -> {
      NetCuts x = net(9);
      for (int i = 0; i < ALL_LINES; i++) {
        due("line " + i, x.line(i % 9, (i + 1) % 9, i, i % 2 == 0), i);
      }
    });
    test("P3 NONE if there are no such POSTS: no POSTS at all", () -> {
      due("line(0,1,1)", new NetCuts().line(0, 1, 1, true), -1);
    });
    test("P3 NONE if there are no such POSTS: the first of the two", () -> {
      due("line(3,0,1)", net(3).line(3, 0, 1, true), -1);
      for (int p : NEVER_POSTS) {
        due("line(" + p + ",0,1)", net(9).line(p, 0, 1, true), -1);
      }
    });
    test("P3 NONE if there are no such POSTS: the second of the two", () -> {
      due("line(0,3,1)", net(3).line(0, 3, 1, true), -1);
      for (int p : NEVER_POSTS) {
        due("line(0," + p + ",1)", net(9).line(0, p, 1, true), -1);
      }
    });
    test("P3 NONE if there are no such POSTS: until they come", () -> {
      NetCuts x = net(1);
      due("line(0,1,1)", x.line(0, 1, 1, true), -1);
      x.post(1);
      due("line(0,1,1)", x.line(0, 1, 1, true), 0);
    });
    test("P3 NONE if both are one", () -> {
      for (int p = 0; p < 9; p++) {
        due("line(" + p + "," + p + ",1)", net(9).line(p, p, 1, true), -1);
      }
    });
    test("P3 the 24th comes", () -> {
      NetCuts x = net(2);
      for (int i = 0; i < ALL_LINES - 1; i++) {
        x.line(0, 1, 1, true);
      }
      due("the 24th", x.line(0, 1, 1, true), 23);
    });
    test("P3 NONE if 24 came", () -> {
      NetCuts x = dearest();
      due("the 25th", x.line(0, 8, 1, true), -1);
      due("count(1)", x.count(1), 24);
    });
    test("P3 NONE if 24 came, though they ended", () -> {
      NetCuts x = dearest();
      for (int i = 0; i < ALL_LINES; i++) {
        x.end(i);
      }
      due("the 25th", x.line(0, 1, 1, true), -1);
      due("count(1)", x.count(1), 0);
    });
    test("P3 one that was refused has no number", () -> {
      NetCuts x = net(2);
      x.line(0, 0, 1, true);
      x.line(0, 2, 1, true);
      x.line(0, 1, 100, true);
      due("line(0,1,1)", x.line(0, 1, 1, true), 0);
    });
  }

  private static void linesOfAllPrices() {
    test("P3 the PRICE 0 can be", () -> due("line(0,1,0)", net(2).line(0, 1, 0, true), 0));
    test("P3 the PRICE 99 can be", () -> {
      NetCuts x = net(2);
      due("line(0,1,99)", x.line(0, 1, 99, true), 0);
      due("cut(0,1)", x.cut(0, 1), 99);
    });
    test("P3 NONE if the PRICE can't be: -1", () -> due("line(0,1,-1)", net(2).line(0, 1, -1, true), -1));
    test("P3 NONE if the PRICE can't be: 100", () -> due("line(0,1,100)", net(2).line(0, 1, 100, true), -1));
    test("P3 NONE if the PRICE can't be: far off, and one that would wrap around to 0", () -> {
      for (int price : new int[] {-100, -256, 101, 256, 65536, Integer.MIN_VALUE, Integer.MAX_VALUE}) {
        due("line(0,1," + price + ")", net(2).line(0, 1, price, false), -1);
      }
    });
    test("Terms: two LINES may have the same POSTS", () -> {
      NetCuts x = like(net(2), l(0, 1, 2));
      due("line(0,1,3)", x.line(0, 1, 3, true), 1);
      due("line(1,0,4)", x.line(1, 0, 4, true), 2);
      due("cut(0,1)", x.cut(0, 1), 9);
    });
    test("Terms: LIKING or not, two of the same POSTS may be one of each", () -> {
      NetCuts x = quarrel(like(net(2), l(0, 1, 3)), l(0, 1, 2));
      due("regret()", x.regret(), 2);
      due("cut(0,1)", x.cut(0, 1), 5);
    });
    test("P3 a LINE may join the first and the last POST, either way", () -> {
      NetCuts x = like(net(9), l(0, 8, 6));
      due("line(8,0,7)", x.line(8, 0, 7, true), 1);
      due("cut(8,0)", x.cut(8, 0), 13);
    });
  }

  // ---- Promise 4

  private static void ends() {
    test("P4 A LINE ends: true", () -> due("end(0)", chain().end(0), true));
    test("P4 the last of 24 ends", () -> due("end(23)", dearest().end(23), true));
    test("P4 false if there is none such: no LINES", () -> {
      due("end(0)", new NetCuts().end(0), false);
      due("end(0)", net(2).end(0), false);
    });
    test("P4 false if there is none such: just behind the last", () -> due("end(2)", chain().end(2), false));
    test("P4 false if there is none such: never one", () -> {
      for (int i : NEVER_LINES) {
        due("end(" + i + ")", dearest().end(i), false);
      }
    });
    test("P4 false if it ended", () -> {
      NetCuts x = chain();
      x.end(1);
      due("end(1)", x.end(1), false);
      due("end(0)", x.end(0), true);
      due("end(0)", x.end(0), false);
    });
    test("P4 the number of one that ended is not used again", () -> {
      NetCuts x = chain();
      x.end(1);
      due("line(1,2,1)", x.line(1, 2, 1, true), 2);
      due("end(1)", x.end(1), false);
    });
  }

  private static void endedCountsNoMore() {
    test("Terms: one that ended counts no more: cut, cutPart", () -> {
      NetCuts x = chain();
      due("cut(0,2)", x.cut(0, 2), 3);
      due("cutPart(0,2)", cutOf(x, 0, 2), "001");
      x.end(0);
      due("cut(0,2)", x.cut(0, 2), 0);
      due("cutPart(0,2)", cutOf(x, 0, 2), "011");
    });
    test("Terms: one that ended counts no more: terminals, terminalPart", () -> {
      NetCuts x = chain();
      tellTerminals(x, 0, 2);
      due("terminals()", x.terminals(), 3);
      x.end(0);
      due("terminals()", x.terminals(), 0);
      due("terminalPart", terminalsOf(x), "011");
    });
    test("Terms: one that ended counts no more: apart, apartPart", () -> {
      NetCuts x = chain();
      x.pair(0, 2);
      due("apart()", x.apart(), 3);
      x.end(0);
      due("apart()", x.apart(), 0);
      due("apartPart", apartOf(x), "011");
    });
    test("Terms: one that ended counts no more: sure of others", () -> {
      NetCuts x = evenChain();
      x.line(0, 2, 0, true);
      x.pair(0, 2);
      due("sure(1)", x.sure(1), 1);
      x.end(0);
      due("sure(1)", x.sure(1), 0);
      due("sure(2)", x.sure(2), 2);
    });
    test("Terms: one that ended counts no more: pieces, piece", () -> {
      NetCuts x = chain();
      due("pieces(2)", x.pieces(2), 3);
      x.end(0);
      due("pieces(2)", x.pieces(2), 0);
      due("piece(2)", pieceOf(x, 2), "011");
      due("pieces(3)", x.pieces(3), 3);
    });
    test("Terms: one that ended counts no more: wholes, whole", () -> {
      NetCuts x = chain();
      due("wholes", wholesOf(x), "001");
      x.end(0);
      due("wholes", wholesOf(x), "011");
    });
    test("Terms: one that ended counts no more: regret, regretPart", () -> {
      NetCuts x = quarrel(like(net(2), l(0, 1, 2)), l(0, 1, 5));
      due("regret()", x.regret(), 2);
      x.end(1);
      due("regret()", x.regret(), 0);
      due("regretPart", regretOf(x), "00");
    });
  }

  private static void endedHoldsNothing() {
    test("Terms: one that ended counts no more: bar, bars", () -> {
      NetCuts x = like(priced(1, 7, 1), l(0, 1, 1), l(1, 2, 1), l(0, 2, 1));
      due("bar(0,2)", x.bar(0, 2), -1);
      x.end(2);
      due("bar(0,2)", x.bar(0, 2), 7);
      due("bars(0,2)", x.bars(0, 2), 2);
      x.end(1);
      due("bar(0,2)", x.bar(0, 2), 0);
      due("bars(0,2)", x.bars(0, 2), 0);
    });
    test("Terms: one that ended counts no more: bridge of others", () -> {
      NetCuts x = triangle();
      due("bridge(0)", x.bridge(0), false);
      x.end(2);
      due("bridge(0)", x.bridge(0), true);
    });
    test("Terms: one that ended counts no more: hinge", () -> {
      NetCuts x = triangle();
      due("hinge(1)", x.hinge(1), false);
      x.end(2);
      due("hinge(1)", x.hinge(1), true);
      x.end(1);
      due("hinge(1)", x.hinge(1), false);
    });
    test("Terms: one that ended counts no more: count", () -> {
      NetCuts x = chain();
      x.end(0);
      due("count(1)", x.count(1), 1);
      due("count(4)", x.count(4), 2);
    });
  }

  // ---- Promise 5

  private static void terminalsTold() {
    test("P5 A POST is a TERMINAL: true", () -> {
      NetCuts x = net(9);
      for (int p = 0; p < 9; p++) {
        due("terminal(" + p + ",true)", x.terminal(p, true), true);
        due("count(2)", x.count(2), p + 1);
      }
    });
    test("P5 (or not): true", () -> {
      NetCuts x = net(9);
      tellTerminals(x, 0, 1, 2, 3, 4, 5, 6, 7, 8);
      for (int p = 0; p < 9; p++) {
        due("terminal(" + p + ",false)", x.terminal(p, false), true);
        due("count(2)", x.count(2), 8 - p);
      }
    });
    test("P5 false if there is none such: no POSTS", () -> {
      due("terminal(0,true)", new NetCuts().terminal(0, true), false);
      due("terminal(0,false)", new NetCuts().terminal(0, false), false);
    });
    test("P5 false if there is none such: just behind the last", () -> {
      due("terminal(2,true)", net(2).terminal(2, true), false);
      due("terminal(2,false)", net(2).terminal(2, false), false);
    });
    test("P5 false if there is none such: never one", () -> {
      for (int p : NEVER_POSTS) {
        NetCuts x = net(9);
        tellTerminals(x, 0);
        due("terminal(" + p + ",true)", x.terminal(p, true), false);
        due("terminal(" + p + ",false)", x.terminal(p, false), false);
        due("count(2)", x.count(2), 1);
      }
    });
    test("P5 false if it is so already: a TERMINAL", () -> {
      NetCuts x = net(2);
      tellTerminals(x, 1);
      due("terminal(1,true)", x.terminal(1, true), false);
      due("count(2)", x.count(2), 1);
    });
    test("P5 false if it is so already: a new POST is none", () -> {
      due("terminal(1,false)", net(2).terminal(1, false), false);
    });
    test("P5 false if it is so already: none any more", () -> {
      NetCuts x = net(2);
      tellTerminals(x, 1);
      x.terminal(1, false);
      due("terminal(1,false)", x.terminal(1, false), false);
      due("terminal(1,true)", x.terminal(1, true), true);
    });
  }

  // ---- Promise 6

  private static void pairsTold() {
    test("P6 A PAIR: true, without a LINE too", () -> due("pair(0,1)", net(2).pair(0, 1), true));
    test("P6 false if there are no such POSTS: no POSTS, or one", () -> {
      due("pair(0,1)", new NetCuts().pair(0, 1), false);
      due("pair(0,1)", net(1).pair(0, 1), false);
      due("pair(1,0)", net(1).pair(1, 0), false);
    });
    test("P6 false if there are no such POSTS: never any", () -> {
      for (int p : NEVER_POSTS) {
        due("pair(" + p + ",2)", net(9).pair(p, 2), false);
        due("pair(2," + p + ")", net(9).pair(2, p), false);
        due("pair(" + p + "," + p + ")", net(9).pair(p, p), false);
      }
    });
    test("P6 false if both are one", () -> {
      for (int p = 0; p < 9; p++) {
        due("pair(" + p + "," + p + ")", net(9).pair(p, p), false);
      }
    });
    test("P6 false if it is a PAIR already", () -> {
      NetCuts x = net(2);
      x.pair(0, 1);
      due("pair(0,1)", x.pair(0, 1), false);
      due("count(3)", x.count(3), 1);
    });
    test("P6 false if it is a PAIR already, told the other way", () -> {
      NetCuts x = net(2);
      x.pair(0, 1);
      due("pair(1,0)", x.pair(1, 0), false);
      due("count(3)", x.count(3), 1);
    });
    test("P6 the eighth comes, false if 8 are there", () -> {
      NetCuts x = net(9);
      for (int p = 1; p < 8; p++) {
        x.pair(0, p);
      }
      due("pair(0,8)", x.pair(0, 8), true);
      due("pair(1,2)", x.pair(1, 2), false);
      due("count(3)", x.count(3), 8);
    });
    test("P6 false if 8 are there: not if 8 came and one went", () -> {
      NetCuts x = net(9);
      for (int p = 1; p < 9; p++) {
        x.pair(0, p);
      }
      x.unpair(0, 4);
      due("pair(1,2)", x.pair(1, 2), true);
      due("pair(0,4)", x.pair(0, 4), false);
    });
  }

  // ---- Promise 7

  private static void pairsGone() {
    test("P7 A PAIR goes: true", () -> {
      NetCuts x = net(3);
      x.pair(0, 1);
      due("unpair(0,1)", x.unpair(0, 1), true);
      due("count(3)", x.count(3), 0);
      due("apartPart", apartOf(x), "000");
    });
    test("P7 A PAIR goes: told the other way", () -> {
      NetCuts x = net(3);
      x.pair(0, 1);
      due("unpair(1,0)", x.unpair(1, 0), true);
      due("count(3)", x.count(3), 0);
      due("apartPart", apartOf(x), "000");
    });
    test("P7 A PAIR goes: the others stay", () -> {
      NetCuts x = net(3);
      x.pair(0, 1);
      x.pair(1, 2);
      x.unpair(0, 1);
      due("apartPart", apartOf(x), "001");
      due("pair(2,1)", x.pair(2, 1), false);
    });
    test("P7 false if it is none: it never was", () -> {
      NetCuts x = net(3);
      due("unpair(0,1)", x.unpair(0, 1), false);
      x.pair(0, 1);
      due("unpair(0,2)", x.unpair(0, 2), false);
      due("unpair(1,2)", x.unpair(1, 2), false);
      due("count(3)", x.count(3), 1);
    });
    test("P7 false if it is none: it went", () -> {
      NetCuts x = net(2);
      x.pair(0, 1);
      x.unpair(0, 1);
      due("unpair(0,1)", x.unpair(0, 1), false);
      due("unpair(1,0)", x.unpair(1, 0), false);
      due("count(3)", x.count(3), 0);
    });
    test("P7 false if it is none: no such POSTS", () -> {
      due("unpair(0,1)", new NetCuts().unpair(0, 1), false);
      NetCuts x = net(9);
      x.pair(0, 1);
      for (int p : NEVER_POSTS) {
        due("unpair(" + p + ",1)", x.unpair(p, 1), false);
        due("unpair(0," + p + ")", x.unpair(0, p), false);
      }
      due("count(3)", x.count(3), 1);
    });
    test("P7 false if it is none: both are one", () -> {
      NetCuts x = net(2);
      x.pair(0, 1);
      due("unpair(0,0)", x.unpair(0, 0), false);
      due("unpair(1,1)", x.unpair(1, 1), false);
    });
  }

  // ---- Terms: partings and sums

  private static void partingsAndSums() {
    test("Terms: the PART's number of POST 0 is 0, whichever is told first", () -> {
      NetCuts x = chain();
      due("cutPart(0,1)", cutOf(x, 0, 1), "011");
      due("cutPart(1,0)", cutOf(x, 1, 0), "011");
    });
    test("Terms: that of each further POST is one that was there, or the least that wasn't", () -> {
      NetCuts x = like(net(5), l(3, 4, 2));
      tellTerminals(x, 4, 2, 0);
      due("terminalPart", terminalsOf(x), "00122");
      x.terminal(0, false);
      due("terminalPart", terminalsOf(x), "00011");
    });
    test("Terms: nine PARTS have the numbers 0 .. 8", () -> {
      due("piece(9)", pieceOf(net(9), 9), "012345678");
    });
    test("Terms: a LINE is CUT if its POSTS are in two PARTS, neither of them 0 too", () -> {
      NetCuts x = like(net(3), l(1, 2, 6));
      due("pieces(3)", x.pieces(3), 6);
    });
    test("Terms: the SUM is that of all LINES that are CUT, QUARRELS too", () -> {
      NetCuts x = quarrel(like(net(2), l(0, 1, 3)), l(1, 0, 4));
      x.pair(0, 1);
      tellTerminals(x, 0, 1);
      due("cut(0,1)", x.cut(0, 1), 7);
      due("terminals()", x.terminals(), 7);
      due("apart()", x.apart(), 7);
      due("pieces(2)", x.pieces(2), 7);
    });
    test("Terms: the SUM of none is 0", () -> {
      due("pieces(1)", dearest().pieces(1), 0);
    });
  }

  private static void firstOfLikeOnes() {
    test("Terms: FIRST, for two POSTS", () -> due("cutPart(0,2)", cutOf(evenChain(), 0, 2), "001"));
    test("Terms: FIRST, for two POSTS and one that hangs with neither", () -> {
      due("cutPart(1,2)", cutOf(net(4), 1, 2), "0010");
    });
    test("Terms: FIRST, for TERMINALS", () -> {
      NetCuts x = like(net(4), l(0, 3, 2), l(1, 3, 2), l(2, 3, 2));
      tellTerminals(x, 0, 1, 2);
      due("terminalPart", terminalsOf(x), "0120");
    });
    test("Terms: FIRST, for PAIRS", () -> {
      NetCuts x = evenChain();
      x.pair(2, 0);
      due("apartPart", apartOf(x), "001");
    });
    test("Terms: FIRST, for k PIECES", () -> due("piece(2)", pieceOf(triangle(), 2), "001"));
    test("Terms: FIRST, for REGRET", () -> {
      due("regretPart", regretOf(quarrel(like(net(2), l(0, 1, 3)), l(0, 1, 3))), "00");
    });
    test("Terms: FIRST is by the first POST at which they differ, not by the fewest in PART 1", () -> {
      // 0 1 1 1 and 0 1 0 0 both cut 6: the later POSTS decide nothing ahead of POST 2.
      NetCuts x = like(net(4), l(0, 1, 3), l(1, 2, 3), l(2, 3, 9), l(0, 3, 3));
      due("cut(0,1)", x.cut(0, 1), 6);
      due("cutPart(0,1)", cutOf(x, 0, 1), "0100");
    });
    test("Terms: FIRST gives way to a lesser SUM", () -> {
      due("piece(2)", pieceOf(like(net(3), l(0, 1, 1), l(1, 2, 2)), 2), "011");
    });
  }

  // ---- Promises 8 and 9

  private static void cuts() {
    test("P8 LEAST for two POSTS, either way", () -> {
      due("cut(0,2)", chain().cut(0, 2), 3);
      due("cut(2,0)", chain().cut(2, 0), 3);
    });
    test("P8 LEAST may be 0: no way, or LINES of the PRICE 0 alone", () -> {
      due("cut(0,1)", net(2).cut(0, 1), 0);
      due("cut(0,1)", like(net(2), l(0, 1, 0)).cut(0, 1), 0);
    });
    test("P8 LEAST may be as much as 24 LINES of 99", () -> {
      NetCuts x = net(2);
      for (int i = 0; i < ALL_LINES; i++) {
        x.line(0, 1, 99, i % 2 == 0);
      }
      due("cut(0,1)", x.cut(0, 1), MOST_SUM);
      due("cutPart(0,1)", cutOf(x, 0, 1), "01");
    });
    test("P8 NONE if there are none such: no POSTS, or one", () -> {
      due("cut(0,1)", new NetCuts().cut(0, 1), -1);
      due("cut(0,1)", net(1).cut(0, 1), -1);
    });
    test("P8 NONE if there are none such: just behind the last", () -> {
      due("cut(0,3)", chain().cut(0, 3), -1);
      due("cut(3,0)", chain().cut(3, 0), -1);
      due("cut(3,4)", chain().cut(3, 4), -1);
    });
    test("P8 NONE if there are none such: never any", () -> {
      for (int p : NEVER_POSTS) {
        due("cut(" + p + ",2)", dearest().cut(p, 2), -1);
        due("cut(2," + p + ")", dearest().cut(2, p), -1);
      }
    });
    test("P8 NONE if both are one", () -> {
      for (int p = 0; p < 9; p++) {
        due("cut(" + p + "," + p + ")", dearest().cut(p, p), -1);
      }
    });
    test("P8 TERMINALS and PAIRS are no matter of it", () -> {
      NetCuts x = chain();
      tellTerminals(x, 0, 1);
      x.pair(0, 1);
      due("cut(0,2)", x.cut(0, 2), 3);
      due("cutPart(0,2)", cutOf(x, 0, 2), "001");
    });
  }

  private static void cutParts() {
    test("P9 The PART of a POST by it", () -> due("cutPart(0,2)", cutOf(chain(), 0, 2), "001"));
    test("P9 NONE likewise: no such two", () -> {
      due("cutPart(0,1,0)", new NetCuts().cutPart(0, 1, 0), -1);
      due("cutPart(0,1,0)", net(1).cutPart(0, 1, 0), -1);
      due("cutPart(0,3,1)", chain().cutPart(0, 3, 1), -1);
      for (int p : NEVER_POSTS) {
        due("cutPart(" + p + ",2,0)", dearest().cutPart(p, 2, 0), -1);
        due("cutPart(2," + p + ",0)", dearest().cutPart(2, p, 0), -1);
      }
    });
    test("P9 NONE likewise: both are one", () -> {
      due("cutPart(1,1,1)", chain().cutPart(1, 1, 1), -1);
      due("cutPart(1,1,0)", chain().cutPart(1, 1, 0), -1);
    });
    test("P9 NONE if there is no such POST: just behind the last", () -> {
      due("cutPart(0,2,3)", chain().cutPart(0, 2, 3), -1);
    });
    test("P9 NONE if there is no such POST: never one", () -> {
      for (int p : NEVER_POSTS) {
        due("cutPart(0,2," + p + ")", dearest().cutPart(0, 2, p), -1);
      }
    });
    test("P9 the last of nine has one", () -> due("cutPart(0,8,8)", net(9).cutPart(0, 8, 8), 1));
  }

  // ---- Promises 10 and 11

  private static void terminalCuts() {
    test("P10 NONE without POSTS", () -> due("terminals()", new NetCuts().terminals(), -1));
    test("P10 one POST is enough", () -> due("terminals()", net(1).terminals(), 0));
    test("P10 LEAST without TERMINALS", () -> due("terminals()", chain().terminals(), 0));
    test("P10 LEAST for one TERMINAL", () -> {
      NetCuts x = chain();
      tellTerminals(x, 1);
      due("terminals()", x.terminals(), 0);
    });
    test("P10 LEAST for two TERMINALS is that for two POSTS", () -> {
      NetCuts x = chain();
      tellTerminals(x, 2, 0);
      due("terminals()", x.terminals(), 3);
    });
    test("P10 any two TERMINALS: not neighbours alone", () -> {
      NetCuts x = like(net(5), l(0, 4, 8));
      tellTerminals(x, 0, 2, 4);
      due("terminals()", x.terminals(), 8);
    });
    test("P10 LEAST for all nine, 24 LINES of 99", () -> {
      NetCuts x = dearest();
      tellTerminals(x, 0, 1, 2, 3, 4, 5, 6, 7, 8);
      due("terminals()", x.terminals(), MOST_SUM);
    });
    test("P10 one that is a TERMINAL no more is not parted", () -> {
      NetCuts x = chain();
      tellTerminals(x, 0, 1, 2);
      due("terminals()", x.terminals(), 8);
      x.terminal(1, false);
      due("terminals()", x.terminals(), 3);
    });
    test("P10 PAIRS are no matter of it", () -> {
      NetCuts x = chain();
      x.pair(0, 1);
      due("terminals()", x.terminals(), 0);
    });
  }

  private static void terminalParts() {
    test("P11 NONE likewise: without POSTS", () -> due("terminalPart(0)", new NetCuts().terminalPart(0), -1));
    test("P11 NONE if there is no such POST: just behind the last", () -> {
      due("terminalPart(3)", chain().terminalPart(3), -1);
    });
    test("P11 NONE if there is no such POST: never one", () -> {
      for (int p : NEVER_POSTS) {
        due("terminalPart(" + p + ")", dearest().terminalPart(p), -1);
      }
    });
    test("P11 The PART without TERMINALS, or with one", () -> {
      NetCuts x = chain();
      due("terminalPart", terminalsOf(x), "000");
      tellTerminals(x, 2);
      due("terminalPart", terminalsOf(x), "000");
    });
    test("P11 The PART of one POST alone", () -> due("terminalPart(0)", net(1).terminalPart(0), 0));
    test("P11 The PART by it: all nine are TERMINALS", () -> {
      NetCuts x = dearest();
      tellTerminals(x, 0, 1, 2, 3, 4, 5, 6, 7, 8);
      due("terminalPart", terminalsOf(x), "012345678");
    });
    test("P11 The PART by it: one between goes where it is dearest to cut", () -> {
      NetCuts x = like(net(4), l(0, 3, 1), l(1, 3, 5), l(2, 3, 2));
      tellTerminals(x, 0, 1, 2);
      due("terminalPart", terminalsOf(x), "0121");
    });
  }

  // ---- Promises 12 and 13

  private static void pairCuts() {
    test("P12 NONE without POSTS", () -> due("apart()", new NetCuts().apart(), -1));
    test("P12 one POST is enough", () -> due("apart()", net(1).apart(), 0));
    test("P12 LEAST without PAIRS", () -> due("apart()", chain().apart(), 0));
    test("P12 the two of each PAIR: those of two PAIRS needn't be apart", () -> {
      NetCuts x = like(net(3), l(0, 2, 9));
      x.pair(0, 1);
      x.pair(1, 2);
      due("apart()", x.apart(), 0);
    });
    test("P12 the two of each PAIR: three PAIRS of three POSTS", () -> {
      NetCuts x = triangle();
      x.pair(0, 1);
      x.pair(1, 2);
      x.pair(2, 0);
      due("apart()", x.apart(), 3);
    });
    test("P12 all eight PAIRS count", () -> {
      NetCuts x = net(9);
      for (int p = 1; p < 9; p++) {
        x.line(0, p, p, true);
        x.pair(p, 0);
        due("apart()", x.apart(), p * (p + 1) / 2);
      }
    });
    test("P12 LEAST may be as much as 24 LINES of 99", () -> {
      NetCuts x = net(9);
      for (int i = 0; i < ALL_LINES; i++) {
        x.line(i % 8, 8, 99, true);
        x.pair(8, i % 8);
      }
      due("apart()", x.apart(), MOST_SUM);
    });
    test("P12 TERMINALS are no matter of it", () -> {
      NetCuts x = chain();
      tellTerminals(x, 0, 1, 2);
      due("apart()", x.apart(), 0);
    });
  }

  private static void pairParts() {
    test("P13 NONE likewise: without POSTS", () -> due("apartPart(0)", new NetCuts().apartPart(0), -1));
    test("P13 NONE if there is no such POST: just behind the last", () -> {
      due("apartPart(3)", chain().apartPart(3), -1);
    });
    test("P13 NONE if there is no such POST: never one", () -> {
      for (int p : NEVER_POSTS) {
        due("apartPart(" + p + ")", dearest().apartPart(p), -1);
      }
    });
    test("P13 The PART without PAIRS", () -> due("apartPart", apartOf(chain()), "000"));
    test("P13 The PART of one POST alone", () -> due("apartPart(0)", net(1).apartPart(0), 0));
    test("P13 The PART by it: two PAIRS with one POST", () -> {
      NetCuts x = net(3);
      x.pair(0, 1);
      x.pair(1, 2);
      due("apartPart", apartOf(x), "010");
    });
    test("P13 The PART by it: eight PAIRS with one POST", () -> {
      NetCuts x = net(9);
      for (int p = 0; p < 8; p++) {
        x.pair(p, 8);
      }
      due("apartPart", apartOf(x), "000000001");
    });
    test("P13 The PART by it: three PAIRS of three POSTS", () -> {
      NetCuts x = net(4);
      x.pair(3, 1);
      x.pair(1, 2);
      x.pair(2, 3);
      due("apartPart", apartOf(x), "0012");
    });
  }

  // ---- Promise 14

  private static void sureLines() {
    test("P14 2 SURE: CUT in all", () -> {
      NetCuts x = chain();
      x.pair(0, 2);
      due("sure(1)", x.sure(1), 2);
    });
    test("P14 1 POSSIBLE (not SURE): CUT in some", () -> {
      NetCuts x = evenChain();
      x.pair(0, 2);
      due("sure(0)", x.sure(0), 1);
      due("sure(1)", x.sure(1), 1);
    });
    test("P14 0 neither", () -> {
      NetCuts x = chain();
      x.pair(0, 2);
      due("sure(0)", x.sure(0), 0);
    });
    test("P14 2 SURE: the two of a PAIR, of the PRICE 0 too", () -> {
      NetCuts x = like(net(2), l(0, 1, 0), l(1, 0, 5));
      x.pair(1, 0);
      due("sure(0)", x.sure(0), 2);
      due("sure(1)", x.sure(1), 2);
    });
    test("P14 the last of 24 LINES has one", () -> {
      NetCuts x = net(2);
      for (int i = 0; i < ALL_LINES; i++) {
        x.line(0, 1, 99, true);
      }
      due("sure(23)", x.sure(23), 0);
      x.pair(0, 1);
      due("sure(23)", x.sure(23), 2);
    });
    test("P14 NONE if there is none such: no LINES", () -> {
      due("sure(0)", new NetCuts().sure(0), -1);
      due("sure(0)", net(2).sure(0), -1);
    });
    test("P14 NONE if there is none such: just behind the last", () -> due("sure(2)", chain().sure(2), -1));
    test("P14 NONE if there is none such: never one", () -> {
      for (int i : NEVER_LINES) {
        due("sure(" + i + ")", dearest().sure(i), -1);
      }
    });
    test("P14 NONE if it ended", () -> {
      NetCuts x = chain();
      x.pair(0, 2);
      x.end(1);
      due("sure(1)", x.sure(1), -1);
      due("sure(0)", x.sure(0), 0);
    });
  }

  private static void sureOnlyByPairs() {
    test("P14 without PAIRS: none that costs anything", () -> {
      due("sure(0)", chain().sure(0), 0);
      due("sure(1)", chain().sure(1), 0);
    });
    test("P14 without PAIRS: one of the PRICE 0 is CUT in some", () -> {
      due("sure(0)", like(net(2), l(0, 1, 0)).sure(0), 1);
    });
    test("P14 without PAIRS: one of the PRICE 0 is in none if others hold its POSTS", () -> {
      due("sure(0)", like(net(3), l(0, 1, 0), l(1, 2, 1), l(2, 0, 1)).sure(0), 0);
    });
    test("P14 for PAIRS, not for TERMINALS", () -> {
      NetCuts x = chain();
      tellTerminals(x, 0, 1, 2);
      due("sure(1)", x.sure(1), 0);
    });
    test("P14 a PAIR that went makes none SURE", () -> {
      NetCuts x = chain();
      x.pair(0, 2);
      x.unpair(0, 2);
      due("sure(1)", x.sure(1), 0);
    });
    test("P14 all PARTINGS, not those in two PARTS alone", () -> {
      // The PARTING in three PARTS, 0 1 2, has the LEAST too: the LINE of the PRICE 0 may be CUT.
      NetCuts x = like(net(3), l(0, 1, 2), l(0, 2, 3), l(1, 2, 0));
      x.pair(0, 1);
      x.pair(0, 2);
      due("sure(2)", x.sure(2), 1);
    });
  }

  // ---- Promises 15 and 16

  private static void pieceSums() {
    test("P15 NONE without POSTS", () -> {
      due("pieces(0)", new NetCuts().pieces(0), -1);
      due("pieces(1)", new NetCuts().pieces(1), -1);
    });
    test("P15 k is 1", () -> {
      due("pieces(1)", net(1).pieces(1), 0);
      due("pieces(1)", chain().pieces(1), 0);
    });
    test("P15 k is as many as there are POSTS: all LINES are CUT", () -> {
      due("pieces(3)", chain().pieces(3), 8);
      due("pieces(9)", dearest().pieces(9), MOST_SUM);
    });
    test("P15 NONE if k is 0", () -> due("pieces(0)", chain().pieces(0), -1));
    test("P15 NONE if k is one more than there are POSTS", () -> {
      due("pieces(2)", net(1).pieces(2), -1);
      due("pieces(4)", chain().pieces(4), -1);
      due("pieces(10)", dearest().pieces(10), -1);
    });
    test("P15 NONE if k is far off", () -> {
      for (int k : new int[] {Integer.MIN_VALUE, -9, -1, 33, 256, Integer.MAX_VALUE}) {
        due("pieces(" + k + ")", dearest().pieces(k), -1);
      }
    });
    test("P15 just k PARTS: not fewer, though that costs less", () -> due("pieces(2)", chain().pieces(2), 3));
    test("P15 just k PARTS: a net that hangs in more pieces costs nothing", () -> {
      due("pieces(3)", net(9).pieces(3), 0);
      due("pieces(1)", net(9).pieces(1), 0);
    });
    test("P15 TERMINALS and PAIRS are no matter of it", () -> {
      NetCuts x = chain();
      tellTerminals(x, 0, 1);
      x.pair(0, 1);
      due("pieces(1)", x.pieces(1), 0);
      due("pieces(2)", x.pieces(2), 3);
    });
  }

  private static void pieceParts() {
    test("P16 The PART of a POST by it, for each k", () -> {
      due("piece(1)", pieceOf(chain(), 1), "000");
      due("piece(2)", pieceOf(chain(), 2), "001");
      due("piece(3)", pieceOf(chain(), 3), "012");
    });
    test("P16 just k PARTS: a net that hangs in more pieces is told in k", () -> {
      due("piece(1)", pieceOf(net(5), 1), "00000");
      due("piece(2)", pieceOf(net(5), 2), "00001");
      due("piece(4)", pieceOf(net(5), 4), "00123");
    });
    test("P16 NONE likewise: without POSTS", () -> due("piece(1,0)", new NetCuts().piece(1, 0), -1));
    test("P16 NONE likewise: k is 0", () -> due("piece(0,0)", chain().piece(0, 0), -1));
    test("P16 NONE likewise: k is one more than there are POSTS", () -> {
      due("piece(4,0)", chain().piece(4, 0), -1);
      due("piece(10,0)", dearest().piece(10, 0), -1);
    });
    test("P16 NONE likewise: k is far off", () -> {
      due("piece(MIN,0)", chain().piece(Integer.MIN_VALUE, 0), -1);
      due("piece(-1,0)", chain().piece(-1, 0), -1);
      due("piece(MAX,0)", chain().piece(Integer.MAX_VALUE, 0), -1);
    });
    test("P16 NONE if there is no such POST: just behind the last", () -> {
      due("piece(2,3)", chain().piece(2, 3), -1);
    });
    test("P16 NONE if there is no such POST: never one", () -> {
      for (int p : NEVER_POSTS) {
        due("piece(2," + p + ")", dearest().piece(2, p), -1);
      }
    });
  }

  // ---- Promises 17 and 18

  private static void wholeCounts() {
    test("P17 0 without POSTS", () -> due("wholes()", new NetCuts().wholes(), 0));
    test("P17 0 with one POST", () -> due("wholes()", net(1).wholes(), 0));
    test("P17 two POSTS have one, whatever it costs", () -> {
      due("wholes()", net(2).wholes(), 1);
      due("wholes()", like(net(2), l(0, 1, 99)).wholes(), 1);
    });
    test("P17 nine POSTS without LINES have all 255", () -> due("wholes()", net(9).wholes(), 255));
    test("P17 nine POSTS with LINES of the PRICE 0 have all 255", () -> {
      NetCuts x = net(9);
      for (int p = 0; p < 8; p++) {
        x.line(p, p + 1, 0, true);
      }
      due("wholes()", x.wholes(), 255);
    });
    test("P17 the least SUM of these: none dearer counts", () -> due("wholes()", chain().wholes(), 1));
    test("P17 PARTINGS in two PARTS alone", () -> {
      // In a net of three pieces the least SUM is 0 in one and in three PARTS too.
      due("wholes()", net(3).wholes(), 3);
    });
    test("P17 QUARRELS count as LIKINGS do", () -> {
      due("wholes()", quarrel(like(net(3), l(0, 1, 4)), l(1, 2, 4)).wholes(), 2);
    });
    test("P17 TERMINALS and PAIRS are no matter of it", () -> {
      NetCuts x = chain();
      tellTerminals(x, 0, 1);
      x.pair(0, 1);
      due("wholes", wholesOf(x), "001");
    });
  }

  private static void wholePartings() {
    test("P18 The PART by the i-th (from 0 on), in order (FIRST ahead)", () -> {
      due("wholes", wholesOf(triangle()), "001 010 011");
      due("wholes", wholesOf(net(4)), "0001 0010 0011 0100 0101 0110 0111");
    });
    test("P18 the first of 255", () -> {
      NetCuts x = net(9);
      due("whole(0)", parting(9, p -> x.whole(0, p)), "000000001");
    });
    test("P18 the last of 255", () -> {
      NetCuts x = net(9);
      due("whole(254)", parting(9, p -> x.whole(254, p)), "011111111");
    });
    test("P18 NONE if there is none such: i is as many as there are", () -> {
      due("whole(3,0)", triangle().whole(3, 0), -1);
      due("whole(1,0)", chain().whole(1, 0), -1);
      due("whole(255,0)", net(9).whole(255, 0), -1);
    });
    test("P18 NONE if there is none such: i is below 0", () -> {
      due("whole(-1,0)", triangle().whole(-1, 0), -1);
      due("whole(MIN,0)", triangle().whole(Integer.MIN_VALUE, 0), -1);
    });
    test("P18 NONE if there is none such: i is far off", () -> {
      due("whole(256,0)", net(9).whole(256, 0), -1);
      due("whole(MAX,0)", net(9).whole(Integer.MAX_VALUE, 0), -1);
    });
    test("P18 NONE if there is none such: fewer than 2 POSTS", () -> {
      due("whole(0,0)", new NetCuts().whole(0, 0), -1);
      due("whole(0,0)", net(1).whole(0, 0), -1);
    });
    test("P18 NONE if there is no such POST: just behind the last", () -> {
      due("whole(0,3)", triangle().whole(0, 3), -1);
    });
    test("P18 NONE if there is no such POST: never one", () -> {
      for (int p : NEVER_POSTS) {
        due("whole(0," + p + ")", dearest().whole(0, p), -1);
      }
    });
    test("P18 NONE if there is none such: fewer than there were, a LINE having come", () -> {
      NetCuts x = like(net(3), l(0, 1, 1), l(1, 2, 1), l(0, 2, 1));
      due("whole(2,1)", x.whole(2, 1), 1);
      x.line(0, 1, 1, true);
      due("wholes", wholesOf(x), "001");
      due("whole(1,1)", x.whole(1, 1), -1);
    });
  }

  // ---- Promises 19 and 20

  private static void regrets() {
    test("P19 NONE without POSTS", () -> due("regret()", new NetCuts().regret(), -1));
    test("P19 one POST regrets nothing", () -> due("regret()", net(1).regret(), 0));
    test("P19 LIKINGS alone: nothing is CUT", () -> due("regret()", dearest().regret(), 0));
    test("P19 QUARRELS alone: all are CUT", () -> {
      NetCuts x = net(9);
      for (int i = 0; i < ALL_LINES; i++) {
        x.line(i % 9, (i + 1 + i / 9) % 9, 99, false);
      }
      due("regret()", x.regret(), 0);
    });
    test("P19 LIKINGS that are CUT", () -> {
      due("regret()", quarrel(like(net(2), l(0, 1, 3)), l(0, 1, 4)).regret(), 3);
    });
    test("P19 QUARRELS that are not", () -> {
      due("regret()", quarrel(like(net(2), l(0, 1, 4)), l(0, 1, 3)).regret(), 3);
    });
    test("P19 the most that can be: 12 LIKINGS and 12 QUARRELS of 99 between two", () -> {
      NetCuts x = net(2);
      for (int i = 0; i < ALL_LINES; i++) {
        x.line(0, 1, 99, i % 2 == 0);
      }
      due("regret()", x.regret(), 12 * 99);
    });
    test("P19 TERMINALS and PAIRS are no matter of it", () -> {
      NetCuts x = chain();
      tellTerminals(x, 0, 1, 2);
      x.pair(0, 1);
      due("regret()", x.regret(), 0);
      due("regretPart", regretOf(x), "000");
    });
  }

  private static void regretParts() {
    test("P20 NONE likewise: without POSTS", () -> due("regretPart(0)", new NetCuts().regretPart(0), -1));
    test("P20 NONE if there is no such POST: just behind the last", () -> {
      due("regretPart(3)", chain().regretPart(3), -1);
    });
    test("P20 NONE if there is no such POST: never one", () -> {
      for (int p : NEVER_POSTS) {
        due("regretPart(" + p + ")", dearest().regretPart(p), -1);
      }
    });
    test("P20 The PART of one POST alone", () -> due("regretPart(0)", net(1).regretPart(0), 0));
    test("P20 QUARRELS among all: as many PARTS as they need", () -> {
      due("regretPart", regretOf(quarrel(net(4), l(0, 1, 1), l(0, 2, 1), l(1, 2, 1), l(3, 2, 1))), "0120");
    });
    test("P20 a QUARREL of the PRICE 0 parts nothing", () -> {
      due("regretPart", regretOf(quarrel(net(2), l(0, 1, 0))), "00");
    });
    test("P20 a LIKING of the PRICE 0 holds nothing", () -> {
      due("regretPart", regretOf(quarrel(like(net(2), l(0, 1, 0)), l(0, 1, 1))), "01");
    });
  }

  // ---- Promises 21 and 22

  /** POSTS a and b and each of the other seven between them. */
  private static NetCuts sevenBetween(int a, int b, int price) {
    NetCuts x = new NetCuts();
    for (int p = 0; p < 9; p++) {
      x.post(price);
    }
    for (int p = 0; p < 9; p++) {
      if (p != a && p != b) {
        x.line(a, p, 1, true);
        x.line(p, b, 1, false);
      }
    }
    return x;
  }

  private static void barSums() {
    test("P21 The least sum of POSTS: one of the PRICE 1, and of 99", () -> {
      due("bar(0,2)", like(priced(9, 1, 9), l(0, 1, 5), l(1, 2, 5)).bar(0, 2), 1);
      due("bar(0,2)", like(priced(9, 99, 9), l(0, 1, 5), l(1, 2, 5)).bar(0, 2), 99);
    });
    test("P21 The least sum of POSTS: the ninth's own PRICE", () -> {
      NetCuts x = priced(1, 1, 1, 1, 1, 1, 1, 1, 42);
      due("bar(0,7)", like(x, l(0, 8, 1), l(8, 7, 1)).bar(0, 7), 42);
    });
    test("P21 the most that can be: seven of 99", () -> due("bar(0,8)", sevenBetween(0, 8, 99).bar(0, 8), 693));
    test("P21 neither of these two, though they cost less", () -> {
      due("bar(0,2)", like(priced(1, 50, 1), l(0, 1, 1), l(1, 2, 1)).bar(0, 2), 50);
    });
    test("P21 two cheap ones rather than a dear one", () -> {
      NetCuts x = like(priced(1, 9, 2, 3, 1), l(0, 1, 1), l(1, 2, 1), l(1, 3, 1), l(2, 4, 1), l(3, 4, 1));
      due("bar(0,4)", x.bar(0, 4), 5);
    });
    test("P21 0 if there is no way", () -> due("bar(0,1)", net(2).bar(0, 1), 0));
    test("P21 the PRICES of LINES are no matter of it", () -> {
      due("bar(0,2)", like(priced(1, 2, 1), l(0, 1, 0), l(1, 2, 99)).bar(0, 2), 2);
    });
    test("P21 a way may have eight LINES", () -> {
      NetCuts x = priced(1, 9, 9, 9, 9, 9, 9, 4, 1);
      for (int p = 0; p < 8; p++) {
        x.line(p, p + 1, 1, true);
      }
      due("bar(0,8)", x.bar(0, 8), 4);
      due("bars(8,0)", x.bars(8, 0), 128);
    });
    test("P21 NONE if there is none: a LINE joins the two", () -> {
      due("bar(0,1)", chain().bar(0, 1), -1);
      due("bar(1,0)", chain().bar(1, 0), -1);
    });
    test("P21 NONE if there is none: one of the PRICE 0 and a QUARREL too", () -> {
      due("bar(0,1)", like(net(2), l(0, 1, 0)).bar(0, 1), -1);
      due("bar(0,1)", quarrel(net(2), l(1, 0, 3)).bar(0, 1), -1);
    });
    test("P21 NONE if there is no such POST", () -> {
      due("bar(0,1)", new NetCuts().bar(0, 1), -1);
      due("bar(0,3)", chain().bar(0, 3), -1);
      due("bar(3,0)", chain().bar(3, 0), -1);
      for (int p : NEVER_POSTS) {
        due("bar(" + p + ",2)", net(9).bar(p, 2), -1);
        due("bar(2," + p + ")", net(9).bar(2, p), -1);
      }
    });
    test("P21 NONE if both are one", () -> {
      for (int p = 0; p < 9; p++) {
        due("bar(" + p + "," + p + ")", net(9).bar(p, p), -1);
      }
    });
  }

  private static void barHeaps() {
    test("P22 That heap (bits): by POSTS", () -> {
      due("bars(0,2)", like(net(3), l(0, 1, 1), l(1, 2, 1)).bars(0, 2), 2);
      due("bars(1,2)", like(net(3), l(1, 0, 1), l(0, 2, 1)).bars(1, 2), 1);
    });
    test("P22 the empty heap is 0, not NONE", () -> due("bars(0,1)", net(2).bars(0, 1), 0));
    test("P22 a heap of seven, among them the first POST or the last", () -> {
      due("bars(0,1)", sevenBetween(0, 1, 99).bars(0, 1), 508);
      due("bars(0,8)", sevenBetween(0, 8, 99).bars(0, 8), 254);
      due("bars(8,7)", sevenBetween(7, 8, 99).bars(8, 7), 127);
    });
    test("P22 of like ones the least as a number: one POST each", () -> {
      due("bars(0,3)", like(net(4), l(0, 2, 1), l(2, 1, 1), l(1, 3, 1)).bars(0, 3), 2);
      due("bars(3,0)", like(net(4), l(0, 2, 1), l(2, 1, 1), l(1, 3, 1)).bars(3, 0), 2);
    });
    test("P22 of like ones the least as a number: not the fewest POSTS", () -> {
      NetCuts x = like(priced(1, 2, 2, 4, 1), l(0, 3, 1), l(3, 1, 1), l(3, 2, 1), l(1, 4, 1), l(2, 4, 1));
      due("bar(0,4)", x.bar(0, 4), 4);
      due("bars(0,4)", x.bars(0, 4), 6);
    });
    test("P22 no POST in the heap that isn't needed", () -> {
      due("bars(0,8)", like(net(9), l(0, 5, 1), l(5, 8, 1), l(1, 2, 1)).bars(0, 8), 32);
    });
    test("P22 NONE likewise: a LINE joins the two", () -> {
      due("bars(0,1)", chain().bars(0, 1), -1);
      due("bars(0,1)", like(net(2), l(1, 0, 0)).bars(0, 1), -1);
    });
    test("P22 NONE likewise: no such POST", () -> {
      due("bars(0,1)", new NetCuts().bars(0, 1), -1);
      due("bars(0,3)", chain().bars(0, 3), -1);
      due("bars(3,0)", chain().bars(3, 0), -1);
      for (int p : NEVER_POSTS) {
        due("bars(" + p + ",2)", net(9).bars(p, 2), -1);
        due("bars(2," + p + ")", net(9).bars(2, p), -1);
      }
    });
    test("P22 NONE likewise: both are one", () -> {
      for (int p = 0; p < 9; p++) {
        due("bars(" + p + "," + p + ")", net(9).bars(p, p), -1);
      }
    });
  }

  // ---- Promise 23

  private static void bridges() {
    test("P23 a LINE without which two POSTS hang together no more", () -> {
      due("bridge(0)", chain().bridge(0), true);
      due("bridge(1)", chain().bridge(1), true);
    });
    test("P23 not one of a ring", () -> due("bridge(0)", triangle().bridge(0), false));
    test("P23 not one of a ring of nine", () -> {
      NetCuts x = net(9);
      for (int p = 0; p < 9; p++) {
        x.line(p, (p + 1) % 9, 1, true);
      }
      due("bridge(8)", x.bridge(8), false);
      x.end(4);
      due("bridge(8)", x.bridge(8), true);
    });
    test("P23 not one of two with the same POSTS", () -> {
      due("bridge(0)", like(net(2), l(0, 1, 1), l(1, 0, 1)).bridge(0), false);
      due("bridge(1)", like(net(2), l(0, 1, 1), l(1, 0, 1)).bridge(1), false);
    });
    test("P23 one of the PRICE 0, and a QUARREL, may be a BRIDGE", () -> {
      due("bridge(0)", like(net(2), l(0, 1, 0)).bridge(0), true);
      due("bridge(0)", quarrel(net(2), l(0, 1, 1)).bridge(0), true);
    });
    test("P23 one of the PRICE 0, and a QUARREL, hold POSTS together", () -> {
      due("bridge(0)", like(net(2), l(0, 1, 5), l(0, 1, 0)).bridge(0), false);
      due("bridge(0)", quarrel(like(net(2), l(0, 1, 5)), l(0, 1, 1)).bridge(0), false);
    });
    test("P23 a net that hangs in pieces without it has BRIDGES too", () -> {
      due("bridge(0)", like(net(9), l(7, 8, 1)).bridge(0), true);
    });
    test("P23 the last of 24 LINES may be one", () -> {
      NetCuts x = net(3);
      for (int i = 0; i < ALL_LINES - 1; i++) {
        x.line(0, 1, 1, true);
      }
      x.line(1, 2, 1, true);
      due("bridge(23)", x.bridge(23), true);
      due("bridge(22)", x.bridge(22), false);
    });
    test("P23 false if there is none such", () -> {
      due("bridge(0)", new NetCuts().bridge(0), false);
      due("bridge(0)", net(2).bridge(0), false);
      due("bridge(2)", chain().bridge(2), false);
      for (int i : NEVER_LINES) {
        due("bridge(" + i + ")", dearest().bridge(i), false);
      }
    });
    test("P23 false if it ended", () -> {
      NetCuts x = chain();
      x.end(0);
      due("bridge(0)", x.bridge(0), false);
    });
  }

  // ---- Promise 24

  private static void hinges() {
    test("P24 a POST without which two others hang together no more", () -> {
      due("hinge(1)", chain().hinge(1), true);
    });
    test("P24 two others: not it and another", () -> {
      due("hinge(0)", chain().hinge(0), false);
      due("hinge(2)", chain().hinge(2), false);
      due("hinge(0)", like(net(2), l(0, 1, 1)).hinge(0), false);
    });
    test("P24 one alone is none", () -> {
      due("hinge(0)", net(1).hinge(0), false);
      due("hinge(0)", net(9).hinge(0), false);
    });
    test("P24 two others that did: not those that hung apart", () -> {
      due("hinge(0)", like(net(4), l(0, 1, 1), l(2, 3, 1)).hinge(0), false);
    });
    test("P24 not one of a ring", () -> due("hinge(0)", triangle().hinge(0), false));
    test("P24 two LINES to one POST make none", () -> {
      due("hinge(0)", like(net(2), l(0, 1, 1), l(0, 1, 1)).hinge(0), false);
    });
    test("P24 where two rings meet there is one", () -> {
      NetCuts x = like(net(5), l(0, 1, 1), l(1, 4, 1), l(4, 0, 1), l(2, 3, 1), l(3, 4, 1), l(4, 2, 1));
      due("hinge(4)", x.hinge(4), true);
      due("hinge(3)", x.hinge(3), false);
    });
    test("P24 the first of nine may be one, and the last", () -> {
      due("hinge(0)", like(net(9), l(0, 1, 1), l(0, 2, 1)).hinge(0), true);
      due("hinge(8)", like(net(9), l(8, 1, 1), l(8, 2, 1)).hinge(8), true);
    });
    test("P24 by LINES of the PRICE 0, and QUARRELS, too", () -> {
      due("hinge(1)", quarrel(like(net(3), l(0, 1, 0)), l(1, 2, 0)).hinge(1), true);
      due("hinge(1)", like(net(3), l(0, 1, 1), l(1, 2, 1), l(0, 2, 0)).hinge(1), false);
      due("hinge(1)", quarrel(chain(), l(0, 2, 1)).hinge(1), false);
    });
    test("P24 false if there is none such", () -> {
      due("hinge(0)", new NetCuts().hinge(0), false);
      due("hinge(3)", chain().hinge(3), false);
      NetCuts star = net(9);
      for (int p = 2; p < 9; p++) {
        star.line(0, p, 1, true);
        star.line(1, p, 1, true);
      }
      for (int p : NEVER_POSTS) {
        due("hinge(" + p + ")", star.hinge(p), false);
      }
    });
  }

  // ---- Promise 25

  private static void counts() {
    test("P25 0 POSTS: none, and nine", () -> {
      due("count(0)", new NetCuts().count(0), 0);
      due("count(0)", net(9).count(0), 9);
    });
    test("P25 1 LINES that didn't end: none, all 24, and when one ended", () -> {
      due("count(1)", net(9).count(1), 0);
      NetCuts x = dearest();
      due("count(1)", x.count(1), 24);
      x.end(23);
      due("count(1)", x.count(1), 23);
    });
    test("P25 2 TERMINALS: none, and all nine", () -> {
      NetCuts x = net(9);
      due("count(2)", x.count(2), 0);
      tellTerminals(x, 0, 1, 2, 3, 4, 5, 6, 7, 8);
      due("count(2)", x.count(2), 9);
    });
    test("P25 3 PAIRS: none, and all eight", () -> {
      NetCuts x = net(9);
      due("count(3)", x.count(3), 0);
      for (int p = 0; p < 8; p++) {
        x.pair(p, p + 1);
      }
      due("count(3)", x.count(3), 8);
    });
    test("P25 4 in how many pieces the net hangs together: no POSTS", () -> {
      due("count(4)", new NetCuts().count(4), 0);
    });
    test("P25 4 in how many pieces the net hangs together: each alone", () -> due("count(4)", net(9).count(4), 9));
    test("P25 4 in how many pieces the net hangs together: all in one", () -> {
      due("count(4)", net(1).count(4), 1);
      NetCuts x = net(9);
      for (int p = 8; p > 0; p--) {
        x.line(p, p - 1, 1, true);
      }
      due("count(4)", x.count(4), 1);
    });
    test("P25 4 in how many pieces the net hangs together: by LINES of the PRICE 0, and QUARRELS, too", () -> {
      due("count(4)", quarrel(like(net(4), l(0, 3, 0)), l(1, 2, 1)).count(4), 2);
    });
    test("P25 NONE for others", () -> {
      for (int what : new int[] {Integer.MIN_VALUE, -4, -1, 5, 6, 32, 36, 256, Integer.MAX_VALUE}) {
        due("count(" + what + ")", dearest().count(what), -1);
        due("count(" + what + ")", new NetCuts().count(what), -1);
      }
    });
  }
}
