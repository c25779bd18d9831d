/** For each promise of the document: ordinary inputs, the edges that it names, and wrong inputs. */
public final class PromisesTest {
  private static int wrong = 0;

  public static void main(String[] args) {
    newObject();
    posts();
    lines();
    ends();
    terminals();
    pairs();
    cuts();
    terminalCuts();
    pairCuts();
    sureLines();
    piecesOfNet();
    wholeCuts();
    regrets();
    bars();
    bridges();
    hinges();
    counts();
    refusedChangesNothing();
    System.out.println(wrong == 0 ? "all answers are as due" : wrong + " answers are not as due");
    if (wrong != 0) {
      System.exit(1);
    }
  }

  private static void due(String call, int got, int want) {
    if (got != want) {
      wrong++;
      System.out.println(call + " answered " + got + ", due is " + want);
    }
  }

  private static void due(String call, boolean got, boolean want) {
    due(call, got ? 1 : 0, want ? 1 : 0);
  }

  private static NetCuts net(int posts) {
    NetCuts x = new NetCuts();
    for (int p = 0; p < posts; p++) {
      x.post(1);
    }
    return x;
  }

  /** A ring with prices 3, 1, 3, 1 from post 0 on: the least cut of the whole, 0 1 | 2 3, has the sum 2. */
  private static NetCuts ring() {
    NetCuts x = net(4);
    x.line(0, 1, 3, true);
    x.line(1, 2, 1, true);
    x.line(2, 3, 3, true);
    x.line(3, 0, 1, true);
    return x;
  }

  private static void newObject() {
    NetCuts x = new NetCuts();
    due("P1 NONE", NetCuts.NONE, -1);
    for (int what = 0; what <= 4; what++) {
      due("P1 count(" + what + ")", x.count(what), 0);
    }
    due("P1 other object is its own", net(3).count(0) + new NetCuts().count(0), 3);
  }

  private static void posts() {
    NetCuts x = new NetCuts();
    int[] badPrices = {0, -1, 100, Integer.MIN_VALUE, Integer.MAX_VALUE};
    for (int price : badPrices) {
      due("P2 post(" + price + ")", x.post(price), -1);
    }
    due("P2 count after refusals", x.count(0), 0);
    for (int p = 0; p < 9; p++) {
      due("P2 post number " + p, x.post(p % 2 == 0 ? 1 : 99), p);
    }
    due("P2 tenth", x.post(1), -1);
    due("P2 count", x.count(0), 9);
  }

  private static void lines() {
    NetCuts x = net(3);
    int[][] bad = {{0, 0, 1}, {0, 3, 1}, {3, 0, 1}, {-1, 0, 1}, {0, -1, 1}, {0, 1, -1}, {0, 1, 100},
        {Integer.MAX_VALUE, 0, 1}, {0, Integer.MIN_VALUE, 1}, {0, 1, Integer.MIN_VALUE}};
    for (int[] l : bad) {
      due("P3 line(" + l[0] + "," + l[1] + "," + l[2] + ")", x.line(l[0], l[1], l[2], true), -1);
    }
    due("P3 price 0", x.line(0, 1, 0, true), 0);
    due("P3 price 99", x.line(1, 0, 99, false), 1);
    due("P3 the same posts again", x.line(0, 1, 1, true), 2);
    due("P3 lines of the same posts add up", x.cut(0, 1), 100);
    x.end(0);
    for (int l = 3; l < 24; l++) {
      due("P3 line number " + l, x.line(1, 2, 1, true), l);
    }
    due("P3 an ended line still came", x.line(0, 1, 1, true), -1);
    due("P3 count", x.count(1), 23);
  }

  private static void ends() {
    NetCuts x = ring();
    due("P4 none such", x.end(4), false);
    due("P4 below 0", x.end(-1), false);
    due("P4 far off", x.end(Integer.MAX_VALUE), false);
    due("P4 far below", x.end(Integer.MIN_VALUE), false);
    due("P4 ends", x.end(0), true);
    due("P4 ended already", x.end(0), false);
    due("P4 counts no more: cut", x.cut(0, 1), 1);
    due("P4 counts no more: count", x.count(1), 3);
    due("P4 counts no more: bridge", x.bridge(1), true);
    due("P4 counts no more: bar", x.bar(0, 1), 1);
    due("P4 last", x.end(3), true);
    due("P4 0 stands alone", x.cut(0, 1), 0);
    due("P4 new ones have new numbers", x.line(0, 1, 2, true), 4);
    NetCuts y = net(2);
    y.line(0, 1, 7, false);
    y.end(0);
    due("P4 counts no more: regret", y.regret(), 0);
    due("P4 counts no more: regretPart", y.regretPart(1), 0);
    due("P4 counts no more: wholes", y.whole(0, 1), 1);
    due("P4 counts no more: sure", y.sure(0), -1);
  }

  private static void terminals() {
    NetCuts x = net(2);
    due("P5 none such", x.terminal(2, true), false);
    due("P5 below 0", x.terminal(-1, true), false);
    due("P5 none such, false", x.terminal(2, false), false);
    due("P5 isn't one already", x.terminal(0, false), false);
    due("P5 becomes one", x.terminal(0, true), true);
    due("P5 is one already", x.terminal(0, true), false);
    due("P5 another", x.terminal(1, true), true);
    due("P5 count", x.count(2), 2);
    due("P5 is one no more", x.terminal(0, false), true);
    due("P5 isn't one already, again", x.terminal(0, false), false);
    due("P5 count after", x.count(2), 1);
    due("P5 one alone parts nothing", x.terminalPart(1), 0);
  }

  private static void pairs() {
    NetCuts x = net(9);
    int[][] bad = {{0, 0}, {0, 9}, {9, 0}, {-1, 0}, {0, -1}, {33, 1}, {1, 32}, {Integer.MIN_VALUE, Integer.MAX_VALUE}};
    for (int[] two : bad) {
      due("P6 pair(" + two[0] + "," + two[1] + ")", x.pair(two[0], two[1]), false);
      due("P7 unpair(" + two[0] + "," + two[1] + ")", x.unpair(two[0], two[1]), false);
    }
    due("P7 none yet", x.unpair(0, 1), false);
    for (int p = 1; p < 9; p++) {
      due("P6 pair(0," + p + ")", x.pair(0, p), true);
      due("P6 again (0," + p + ")", x.pair(0, p), false);
      due("P6 turned (" + p + ",0)", x.pair(p, 0), false);
    }
    due("P6 count", x.count(3), 8);
    due("P6 ninth", x.pair(1, 2), false);
    due("P7 not a pair", x.unpair(1, 2), false);
    due("P7 goes, turned", x.unpair(8, 0), true);
    due("P7 gone already", x.unpair(0, 8), false);
    due("P7 count", x.count(3), 7);
    due("P6 room again", x.pair(1, 2), true);
    due("P6 full again", x.pair(0, 8), false);
    due("P7 goes", x.unpair(0, 1), true);
    due("P7 others stay", x.apartPart(2), 1);
    due("P7 1 is free of 0", x.apartPart(1), 0);
  }

  private static void cuts() {
    NetCuts x = ring();
    due("P8 cut(0,2)", x.cut(0, 2), 2);
    due("P8 cut(2,0)", x.cut(2, 0), 2);
    due("P8 cut(0,1)", x.cut(0, 1), 4);
    int[][] bad = {{0, 0}, {0, 4}, {4, 0}, {-1, 2}, {2, -1}, {4, 4}, {Integer.MAX_VALUE, 0}, {0, Integer.MIN_VALUE}};
    for (int[] two : bad) {
      due("P8 cut(" + two[0] + "," + two[1] + ")", x.cut(two[0], two[1]), -1);
      due("P9 cutPart(" + two[0] + "," + two[1] + ",0)", x.cutPart(two[0], two[1], 0), -1);
    }
    int[] parting02 = {0, 0, 1, 1};
    // {0 2 3 | 1} and {0 | 1 2 3} and {0 3 | 1 2} have the sum 4: 0 1 0 0 is the first.
    int[] parting01 = {0, 1, 0, 0};
    for (int p = 0; p < 4; p++) {
      due("P9 cutPart(0,2," + p + ")", x.cutPart(0, 2, p), parting02[p]);
      due("P9 cutPart(2,0," + p + ")", x.cutPart(2, 0, p), parting02[p]);
      due("P9 cutPart(0,1," + p + ")", x.cutPart(0, 1, p), parting01[p]);
    }
    due("P9 no such post", x.cutPart(0, 2, 4), -1);
    due("P9 post below 0", x.cutPart(0, 2, -1), -1);
    x.line(0, 2, 5, false);
    due("P8 quarrels are lines too", x.cut(0, 2), 7);
    due("P8 terminals and pairs don't matter", x.terminal(1, true) && x.terminal(0, true) && x.pair(0, 1), true);
    due("P8 cut(0,2) as before", x.cut(0, 2), 7);
  }

  private static void terminalCuts() {
    due("P10 no posts", new NetCuts().terminals(), -1);
    due("P11 no posts", new NetCuts().terminalPart(0), -1);
    NetCuts x = ring();
    due("P10 no terminals", x.terminals(), 0);
    due("P11 no terminals", x.terminalPart(3), 0);
    x.terminal(0, true);
    due("P10 one terminal", x.terminals(), 0);
    x.terminal(1, true);
    x.terminal(3, true);
    due("P10 three", x.terminals(), 5);
    int[] parting = {0, 1, 2, 2};
    for (int p = 0; p < 4; p++) {
      due("P11 terminalPart(" + p + ")", x.terminalPart(p), parting[p]);
    }
    due("P11 no such post", x.terminalPart(4), -1);
    due("P11 below 0", x.terminalPart(-1), -1);
    x.terminal(2, true);
    due("P10 all", x.terminals(), 8);
    due("P11 all", x.terminalPart(3), 3);
    NetCuts nine = net(9);
    for (int p = 0; p < 9; p++) {
      nine.terminal(p, true);
    }
    due("P10 nine without lines", nine.terminals(), 0);
    due("P11 nine without lines", nine.terminalPart(8), 8);
  }

  private static void pairCuts() {
    due("P12 no posts", new NetCuts().apart(), -1);
    due("P13 no posts", new NetCuts().apartPart(0), -1);
    NetCuts x = ring();
    due("P12 no pairs", x.apart(), 0);
    due("P13 no pairs", x.apartPart(3), 0);
    x.pair(0, 2);
    due("P12 a pair", x.apart(), 2);
    x.pair(3, 1);
    due("P12 two pairs", x.apart(), 2);
    due("P13 two pairs", x.apartPart(1), 0);
    due("P13 two pairs", x.apartPart(3), 1);
    x.pair(0, 1);
    // 0 is apart from 1 and 2, 1 from 3: {0 3 | 1 2} cuts 3 + 3, {0 | 1 | 2 3} cuts 3 + 1 + 1.
    due("P12 three pairs", x.apart(), 5);
    int[] parting = {0, 1, 2, 2};
    for (int p = 0; p < 4; p++) {
      due("P13 apartPart(" + p + ")", x.apartPart(p), parting[p]);
    }
    due("P13 no such post", x.apartPart(4), -1);
    due("P13 below 0", x.apartPart(-1), -1);
  }

  private static void sureLines() {
    NetCuts x = net(4);
    x.line(0, 1, 2, true);
    x.line(1, 2, 2, true);
    x.line(2, 3, 3, true);
    x.line(0, 3, 0, true);
    x.line(1, 2, 0, true);
    due("P14 without pairs: a price", x.sure(0), 0);
    // 0 and 3 are one part by lines 0, 1, 2: to cut line 3 costs more than 0.
    due("P14 without pairs: price 0, held by others", x.sure(3), 0);
    x.pair(0, 3);
    // Least is 2, by line 0 or by line 1; line 3 costs nothing and must be cut, line 4 goes with 1.
    int[] dues = {1, 1, 0, 2, 1};
    for (int l = 0; l < 5; l++) {
      due("P14 sure(" + l + ")", x.sure(l), dues[l]);
    }
    x.line(0, 1, 1, false);
    due("P14 line 1 is the cheaper way now", x.sure(1), 2);
    due("P14 line 0 no more", x.sure(0), 0);
    due("P14 none such", x.sure(6), -1);
    due("P14 below 0", x.sure(-1), -1);
    x.end(1);
    due("P14 ended", x.sure(1), -1);
    NetCuts y = net(2);
    y.line(0, 1, 0, true);
    due("P14 possible without pairs", y.sure(0), 1);
    y.pair(1, 0);
    due("P14 sure by its own pair", y.sure(0), 2);
  }

  private static void piecesOfNet() {
    due("P15 no posts, 0", new NetCuts().pieces(0), -1);
    due("P15 no posts, 1", new NetCuts().pieces(1), -1);
    due("P16 no posts", new NetCuts().piece(1, 0), -1);
    NetCuts x = ring();
    int[] sums = {-1, 0, 2, 5, 8, -1};
    for (int k = 0; k < 6; k++) {
      due("P15 pieces(" + k + ")", x.pieces(k), sums[k]);
    }
    due("P15 below 0", x.pieces(-1), -1);
    due("P15 far off", x.pieces(Integer.MAX_VALUE), -1);
    due("P15 far below", x.pieces(Integer.MIN_VALUE), -1);
    int[][] partings = {{0, 0, 0, 0}, {0, 0, 1, 1}, {0, 0, 1, 2}, {0, 1, 2, 3}};
    for (int k = 1; k <= 4; k++) {
      for (int p = 0; p < 4; p++) {
        due("P16 piece(" + k + "," + p + ")", x.piece(k, p), partings[k - 1][p]);
      }
    }
    due("P16 no such post", x.piece(2, 4), -1);
    due("P16 post below 0", x.piece(2, -1), -1);
    due("P16 k 0", x.piece(0, 0), -1);
    due("P16 k 5", x.piece(5, 0), -1);
    due("P15 just so many: nets apart", net(9).pieces(5), 0);
    due("P16 just so many: nets apart", net(9).piece(5, 4) * 10 + net(9).piece(5, 5), 1);
    due("P16 the last ones stand alone", net(9).piece(5, 8), 4);
  }

  private static void wholeCuts() {
    due("P17 no posts", new NetCuts().wholes(), 0);
    due("P17 one post", net(1).wholes(), 0);
    due("P18 no posts", new NetCuts().whole(0, 0), -1);
    due("P18 one post", net(1).whole(0, 0), -1);
    due("P17 two posts", net(2).wholes(), 1);
    due("P18 two posts", net(2).whole(0, 1), 1);
    NetCuts x = net(4);
    x.line(0, 1, 2, true);
    x.line(1, 2, 2, false);
    x.line(2, 3, 2, true);
    x.line(3, 0, 2, true);
    // Every two lines of a ring of like ones.
    int[][] partings = {{0, 0, 0, 1}, {0, 0, 1, 0}, {0, 0, 1, 1}, {0, 1, 0, 0}, {0, 1, 1, 0}, {0, 1, 1, 1}};
    due("P17 ring", x.wholes(), 6);
    for (int i = 0; i < 6; i++) {
      for (int p = 0; p < 4; p++) {
        due("P18 whole(" + i + "," + p + ")", x.whole(i, p), partings[i][p]);
      }
    }
    due("P18 i below 0", x.whole(-1, 0), -1);
    due("P18 i too great", x.whole(6, 0), -1);
    due("P18 far off", x.whole(Integer.MAX_VALUE, 0), -1);
    due("P18 far below", x.whole(Integer.MIN_VALUE, 0), -1);
    due("P18 no such post", x.whole(0, 4), -1);
    due("P18 post below 0", x.whole(0, -1), -1);
    x.line(0, 1, 1, true);
    due("P17 one line dearer", x.wholes(), 3);
    due("P18 one line dearer", x.whole(2, 2), 1);
  }

  private static void regrets() {
    due("P19 no posts", new NetCuts().regret(), -1);
    due("P20 no posts", new NetCuts().regretPart(0), -1);
    due("P19 one post", net(1).regret(), 0);
    due("P20 one post", net(1).regretPart(0), 0);
    NetCuts x = net(4);
    x.line(0, 1, 4, false);
    x.line(1, 2, 4, false);
    x.line(0, 2, 4, false);
    x.line(2, 3, 3, true);
    due("P19 three parts", x.regret(), 0);
    int[] parting = {0, 1, 2, 2};
    for (int p = 0; p < 4; p++) {
      due("P20 regretPart(" + p + ")", x.regretPart(p), parting[p]);
    }
    x.line(0, 3, 5, true);
    // 2 and 3 are cut (3); all of one part with 0, 2, 3 costs 4.
    due("P19 a liking is cut", x.regret(), 3);
    due("P20 3 goes to 0", x.regretPart(3), 0);
    x.line(2, 3, 1, true);
    // Both cost 4: 0 1 0 0 is ahead of 0 1 2 0.
    due("P19 like ones", x.regret(), 4);
    due("P20 the first of like ones", x.regretPart(2), 0);
    due("P20 no such post", x.regretPart(4), -1);
    due("P20 below 0", x.regretPart(-1), -1);
  }

  private static void bars() {
    NetCuts x = new NetCuts();
    int[] prices = {9, 3, 5, 2, 9, 1};
    for (int price : prices) {
      x.post(price);
    }
    x.line(0, 1, 0, true);
    x.line(0, 2, 1, true);
    x.line(1, 3, 1, true);
    x.line(2, 3, 1, false);
    x.line(3, 4, 1, true);
    due("P21 one post", x.bar(0, 4), 2);
    due("P22 one post", x.bars(0, 4), 8);
    due("P21 turned", x.bar(4, 0), 2);
    due("P22 turned", x.bars(4, 0), 8);
    due("P21 two posts", x.bar(0, 3), 8);
    due("P22 two posts", x.bars(0, 3), 6);
    due("P21 a line joins them, of price 0", x.bar(0, 1), -1);
    due("P22 a line joins them", x.bars(1, 0), -1);
    due("P21 no way at all", x.bar(0, 5), 0);
    due("P22 no way at all", x.bars(0, 5), 0);
    int[][] bad = {{0, 0}, {0, 6}, {6, 0}, {-1, 0}, {0, -1}, {Integer.MIN_VALUE, Integer.MAX_VALUE}};
    for (int[] two : bad) {
      due("P21 bar(" + two[0] + "," + two[1] + ")", x.bar(two[0], two[1]), -1);
      due("P22 bars(" + two[0] + "," + two[1] + ")", x.bars(two[0], two[1]), -1);
    }
    NetCuts chain = new NetCuts();
    int[] chainPrices = {1, 2, 2, 4, 1};
    for (int price : chainPrices) {
      chain.post(price);
    }
    chain.line(0, 3, 1, true);
    chain.line(3, 1, 1, true);
    chain.line(3, 2, 1, true);
    chain.line(1, 4, 1, true);
    chain.line(2, 4, 1, true);
    // Posts 1 and 2 together cost as much as post 3; their number, 6, is less than 8.
    due("P21 like ones", chain.bar(0, 4), 4);
    due("P22 the least of like ones", chain.bars(0, 4), 6);
  }

  private static void bridges() {
    NetCuts x = net(4);
    x.line(0, 1, 0, true);
    x.line(1, 2, 1, true);
    x.line(2, 1, 1, false);
    due("P23 alone", x.bridge(0), true);
    due("P23 doubled", x.bridge(1), false);
    due("P23 doubled", x.bridge(2), false);
    due("P23 none such", x.bridge(3), false);
    due("P23 below 0", x.bridge(-1), false);
    due("P23 far off", x.bridge(Integer.MAX_VALUE), false);
    x.end(1);
    due("P23 ended", x.bridge(1), false);
    due("P23 the other is one now", x.bridge(2), true);
    x.line(2, 0, 1, true);
    due("P23 in a ring", x.bridge(0), false);
  }

  private static void hinges() {
    NetCuts x = net(5);
    due("P24 alone", x.hinge(0), false);
    x.line(3, 0, 0, true);
    x.line(3, 1, 1, false);
    due("P24 between two", x.hinge(3), true);
    due("P24 at an end", x.hinge(0), false);
    due("P24 hangs with nothing", x.hinge(4), false);
    due("P24 none such", x.hinge(5), false);
    due("P24 below 0", x.hinge(-1), false);
    due("P24 far off", x.hinge(Integer.MIN_VALUE), false);
    x.line(0, 1, 1, true);
    due("P24 in a ring", x.hinge(3), false);
    x.line(3, 2, 1, true);
    due("P24 a ring with a tail", x.hinge(3), true);
    x.end(3);
    due("P24 the tail ended", x.hinge(3), false);
    due("P24 a net that was apart ahead of it", x.hinge(2), false);
  }

  private static void counts() {
    NetCuts x = net(5);
    x.line(0, 1, 0, true);
    x.line(0, 1, 1, false);
    x.line(2, 3, 1, true);
    x.end(1);
    x.terminal(4, true);
    x.pair(0, 4);
    x.pair(1, 4);
    x.pair(2, 4);
    int[] dues = {-1, 5, 2, 1, 3, 3, -1};
    for (int what = -1; what <= 5; what++) {
      due("P25 count(" + what + ")", x.count(what), dues[what + 1]);
    }
    due("P25 far off", x.count(Integer.MAX_VALUE), -1);
    due("P25 far below", x.count(Integer.MIN_VALUE), -1);
    x.end(0);
    due("P25 pieces after an end", x.count(4), 4);
  }

  private static void refusedChangesNothing() {
    NetCuts x = ring();
    x.pair(0, 2);
    x.terminal(0, true);
    x.post(0);
    x.post(100);
    x.line(0, 0, 5, true);
    x.line(0, 4, 5, true);
    x.line(0, 1, 100, true);
    x.end(4);
    x.terminal(0, true);
    x.terminal(4, true);
    x.pair(2, 0);
    x.pair(0, 4);
    x.unpair(0, 1);
    int[] dues = {4, 4, 1, 1, 1};
    for (int what = 0; what < 5; what++) {
      due("refused: count(" + what + ")", x.count(what), dues[what]);
    }
    due("refused: apart()", x.apart(), 2);
    due("refused: terminals()", x.terminals(), 0);
    due("refused: cut(0,1)", x.cut(0, 1), 4);
    due("refused: a later post is no terminal", x.post(1) == 4 && x.terminal(4, true), true);
  }
}
