/** Cuts of small nets. What each call answers stands in the document, ../shared/DOC.md. */
public final class NetCuts {
  public static final int NONE = -1;

  private static final int MOST_POSTS = 9;
  private static final int MOST_LINES = 24;
  private static final int MOST_PAIRS = 8;
  private static final int MOST_PRICE = 99;
  /** Above every sum that a net can have, so that it stands for "nothing found yet". */
  private static final int BEYOND = 1_000_000;

  private final Net net;
  private final Search search;
  private final Halvings halvings;
  /** For each post the posts, as bits, that it is a PAIR with. */
  private final int[] pairedWith;
  private int pairCount;
  private int terminalBits;

  public NetCuts() {
    net = new Net();
    search = new Search();
    halvings = new Halvings();
    pairedWith = new int[MOST_POSTS];
    pairCount = 0;
    terminalBits = 0;
  }

  // ---- the net is told

  public int post(int price) {
    return net.addPost(price);
  }

  public int line(int a, int b, int price, boolean liking) {
    return net.addLine(a, b, price, liking);
  }

  public boolean end(int line) {
    return net.endLine(line);
  }

  public boolean terminal(int post, boolean is) {
    if (!net.hasPost(post) || holds(terminalBits, post) == is) {
      return false;
    }
    terminalBits ^= 1 << post;
    return true;
  }

  public boolean pair(int a, int b) {
    if (!net.hasTwo(a, b) || holds(pairedWith[a], b) || pairCount >= MOST_PAIRS) {
      return false;
    }
    turnPair(a, b);
    pairCount++;
    return true;
  }

  public boolean unpair(int a, int b) {
    if (!net.hasTwo(a, b) || !holds(pairedWith[a], b)) {
      return false;
    }
    turnPair(a, b);
    pairCount--;
    return true;
  }

  // ---- lines are cut

  public int cut(int a, int b) {
    return findCut(a, b) ? search.leastCost() : NONE;
  }

  public int cutPart(int a, int b, int post) {
    return net.hasPost(post) && findCut(a, b) ? search.partOf(post) : NONE;
  }

  public int terminals() {
    return findTerminals() ? search.leastCost() : NONE;
  }

  public int terminalPart(int post) {
    return net.hasPost(post) && findTerminals() ? search.partOf(post) : NONE;
  }

  public int apart() {
    return findApart() ? search.leastCost() : NONE;
  }

  public int apartPart(int post) {
    return net.hasPost(post) && findApart() ? search.partOf(post) : NONE;
  }

  public int sure(int line) {
    if (!net.hasLine(line)) {
      return NONE;
    }
    // Each parting either cuts the line or doesn't, so the least of both kinds tells it all.
    int a = net.from[line];
    int b = net.to[line];
    preparePairs();
    search.keepTogether(a, b);
    search.run();
    int leastUncut = search.leastCost();
    preparePairs();
    search.keepApart(a, b);
    search.run();
    int leastCut = search.leastCost();
    if (leastCut < leastUncut) {
      return 2;
    }
    return leastCut == leastUncut ? 1 : 0;
  }

  public int pieces(int k) {
    return findPieces(k) ? search.leastCost() : NONE;
  }

  public int piece(int k, int post) {
    return net.hasPost(post) && findPieces(k) ? search.partOf(post) : NONE;
  }

  public int wholes() {
    halvings.gather(net);
    return halvings.size;
  }

  public int whole(int i, int post) {
    if (!net.hasPost(post)) {
      return NONE;
    }
    halvings.gather(net);
    return halvings.sideOf(i, post);
  }

  public int regret() {
    return findRegret() ? search.leastCost() : NONE;
  }

  public int regretPart(int post) {
    return net.hasPost(post) && findRegret() ? search.partOf(post) : NONE;
  }

  // ---- posts are taken away, and how the net hangs together

  public int bar(int a, int b) {
    int heap = net.barringHeap(a, b);
    return heap == NONE ? NONE : net.priceOfHeap(heap);
  }

  public int bars(int a, int b) {
    return net.barringHeap(a, b);
  }

  public boolean bridge(int line) {
    return net.isBridge(line);
  }

  public boolean hinge(int post) {
    return net.isHinge(post);
  }

  public int count(int what) {
    switch (what) {
      case 0:
        return net.posts;
      case 1:
        return net.linesLeft();
      case 2:
        return sizeOf(terminalBits);
      case 3:
        return pairCount;
      case 4:
        return net.hangingPieces();
      default:
        return NONE;
    }
  }

  // ---- questions for the search; each tells whether it can be asked

  private boolean findCut(int a, int b) {
    if (!net.hasTwo(a, b)) {
      return false;
    }
    prepareSums();
    search.keepApart(a, b);
    search.run();
    return true;
  }

  private boolean findTerminals() {
    if (net.posts == 0) {
      return false;
    }
    prepareSums();
    for (int post = 0; post < net.posts; post++) {
      if (holds(terminalBits, post)) {
        search.keepApartFrom(post, terminalBits & ~(1 << post));
      }
    }
    search.run();
    return true;
  }

  private boolean findApart() {
    if (net.posts == 0) {
      return false;
    }
    preparePairs();
    search.run();
    return true;
  }

  private boolean findPieces(int k) {
    if (k < 1 || k > net.posts) {
      return false;
    }
    prepareSums();
    search.wantParts(k);
    search.run();
    return true;
  }

  private boolean findRegret() {
    if (net.posts == 0) {
      return false;
    }
    search.begin(net.posts);
    for (int line = 0; line < net.lines; line++) {
      if (!net.ended[line]) {
        int price = net.linePrice[line];
        boolean likes = net.likes[line];
        search.addCost(net.from[line], net.to[line], likes ? price : 0, likes ? 0 : price);
      }
    }
    search.run();
    return true;
  }

  private void prepareSums() {
    search.begin(net.posts);
    for (int line = 0; line < net.lines; line++) {
      if (!net.ended[line]) {
        search.addCost(net.from[line], net.to[line], net.linePrice[line], 0);
      }
    }
  }

  private void preparePairs() {
    prepareSums();
    for (int post = 0; post < net.posts; post++) {
      search.keepApartFrom(post, pairedWith[post]);
    }
  }

  private void turnPair(int a, int b) {
    pairedWith[a] ^= 1 << b;
    pairedWith[b] ^= 1 << a;
  }

  // ---- heaps of posts as bits

  private static boolean holds(int heap, int post) {
    return ((heap >> post) & 1) != 0;
  }

  private static int sizeOf(int heap) {
    int size = 0;
    for (int post = 0; post < MOST_POSTS; post++) {
      if (holds(heap, post)) {
        size++;
      }
    }
    return size;
  }

  /** The posts and lines, and how they hang together. */
  private static final class Net {
    final int[] from = new int[MOST_LINES];
    final int[] to = new int[MOST_LINES];
    final int[] linePrice = new int[MOST_LINES];
    final boolean[] likes = new boolean[MOST_LINES];
    final boolean[] ended = new boolean[MOST_LINES];
    int posts = 0;
    int lines = 0;

    private final int[] postPrice = new int[MOST_POSTS];
    /** For each post the posts, as bits, that a line joins it with; laid anew for each question. */
    private final int[] joined = new int[MOST_POSTS];

    boolean hasPost(int post) {
      return post >= 0 && post < posts;
    }

    boolean hasTwo(int a, int b) {
      return hasPost(a) && hasPost(b) && a != b;
    }

    boolean hasLine(int line) {
      return line >= 0 && line < lines && !ended[line];
    }

    int addPost(int price) {
      if (price < 1 || price > MOST_PRICE || posts >= MOST_POSTS) {
        return NONE;
      }
      postPrice[posts] = price;
      posts++;
      return posts - 1;
    }

    int addLine(int a, int b, int price, boolean liking) {
      if (!hasTwo(a, b) || price < 0 || price > MOST_PRICE || lines >= MOST_LINES) {
        return NONE;
      }
      from[lines] = a;
      to[lines] = b;
      linePrice[lines] = price;
      likes[lines] = liking;
      lines++;
      return lines - 1;
    }

    boolean endLine(int line) {
      if (!hasLine(line)) {
        return false;
      }
      ended[line] = true;
      return true;
    }

    int linesLeft() {
      int left = 0;
      for (int line = 0; line < lines; line++) {
        if (!ended[line]) {
          left++;
        }
      }
      return left;
    }

    int priceOfHeap(int heap) {
      int sum = 0;
      for (int post = 0; post < posts; post++) {
        if (holds(heap, post)) {
          sum += postPrice[post];
        }
      }
      return sum;
    }

    /** The sum of the lines that have one post in the heap and one outside it. */
    int sumAround(int heap) {
      int sum = 0;
      for (int line = 0; line < lines; line++) {
        if (!ended[line] && holds(heap, from[line]) != holds(heap, to[line])) {
          sum += linePrice[line];
        }
      }
      return sum;
    }

    boolean isBridge(int line) {
      if (!hasLine(line)) {
        return false;
      }
      joinPosts(line);
      return !holds(reach(from[line], 0), to[line]);
    }

    boolean isHinge(int post) {
      if (!hasPost(post)) {
        return false;
      }
      joinPosts(NONE);
      int gone = 1 << post;
      int others = reach(post, 0) & ~gone;
      for (int other = 0; other < posts; other++) {
        if (holds(others, other)) {
          return reach(other, gone) != others;
        }
      }
      return false;
    }

    int hangingPieces() {
      joinPosts(NONE);
      int pieces = 0;
      int seen = 0;
      for (int post = 0; post < posts; post++) {
        if (!holds(seen, post)) {
          seen |= reach(post, 0);
          pieces++;
        }
      }
      return pieces;
    }

    /** The heap of least price that bars two posts, NONE if there is none. */
    int barringHeap(int a, int b) {
      if (!hasTwo(a, b)) {
        return NONE;
      }
      joinPosts(NONE);
      int two = (1 << a) | (1 << b);
      int best = NONE;
      int bestPrice = BEYOND;
      // The heaps come in rising order, so of like ones the least stays.
      for (int heap = 0; heap < 1 << posts; heap++) {
        if ((heap & two) == 0) {
          int price = priceOfHeap(heap);
          if (price < bestPrice && !holds(reach(a, heap), b)) {
            best = heap;
            bestPrice = price;
          }
        }
      }
      return best;
    }

    /** Lays out which posts the lines join, as if the one line (or NONE) were not there. */
    private void joinPosts(int without) {
      for (int post = 0; post < posts; post++) {
        joined[post] = 0;
      }
      for (int line = 0; line < lines; line++) {
        if (!ended[line] && line != without) {
          joined[from[line]] |= 1 << to[line];
          joined[to[line]] |= 1 << from[line];
        }
      }
    }

    /** The posts that hang together with one, itself too, when those of a heap are gone. */
    private int reach(int start, int gone) {
      int reached = 1 << start;
      // A way has fewer steps than there are posts.
      for (int step = 1; step < posts; step++) {
        int wider = reached;
        for (int post = 0; post < posts; post++) {
          if (holds(reached, post)) {
            wider |= joined[post] & ~gone;
          }
        }
        if (wider == reached) {
          return reached;
        }
        reached = wider;
      }
      return reached;
    }
  }

  /** The partings in two parts with the least sum, in order, each as the heap of posts in part 1. */
  private static final class Halvings {
    private final int[] found = new int[1 << (MOST_POSTS - 1)];
    int size = 0;

    void gather(Net net) {
      size = 0;
      if (net.posts < 2) {
        return;
      }
      int least = BEYOND;
      for (int code = 1; code < 1 << (net.posts - 1); code++) {
        int heap = heapOf(code, net.posts);
        int sum = net.sumAround(heap);
        if (sum < least) {
          least = sum;
          size = 0;
        }
        if (sum == least) {
          found[size] = heap;
          size++;
        }
      }
    }

    int sideOf(int i, int post) {
      if (i < 0 || i >= size) {
        return NONE;
      }
      return holds(found[i], post) ? 1 : 0;
    }

    /** An early post weighs more than all later ones in the code, so that rising codes are in order. */
    private static int heapOf(int code, int posts) {
      int heap = 0;
      for (int post = 1; post < posts; post++) {
        if (holds(code, posts - 1 - post)) {
          heap |= 1 << post;
        }
      }
      return heap;
    }
  }

  /** Finds the FIRST of the partings with the least cost among those that are allowed. */
  private static final class Search {
    /** By the later post, then the earlier one: what it costs to lay them in two parts. */
    private final int[][] splitCost = new int[MOST_POSTS][MOST_POSTS];
    /** Likewise: what it costs to lay them in one part. */
    private final int[][] joinCost = new int[MOST_POSTS][MOST_POSTS];
    /** For each post, by parts: what it costs to lay it there, the earlier ones lying as they do. */
    private final int[][] toll = new int[MOST_POSTS][MOST_POSTS];
    private final int[] foes = new int[MOST_POSTS];
    private final int[] friends = new int[MOST_POSTS];
    /** The posts of each part, as bits. */
    private final int[] members = new int[MOST_POSTS];
    private final int[] part = new int[MOST_POSTS];
    private final int[] bestPart = new int[MOST_POSTS];
    private int posts = 0;
    private int fewestParts = 0;
    private int mostParts = 0;
    private int bestCost = BEYOND;

    /** A new question: nothing costs anything and all partings are allowed. */
    void begin(int postCount) {
      posts = Math.min(postCount, MOST_POSTS);
      fewestParts = 0;
      mostParts = posts;
      for (int post = 0; post < posts; post++) {
        foes[post] = 0;
        friends[post] = 0;
        for (int earlier = 0; earlier < post; earlier++) {
          splitCost[post][earlier] = 0;
          joinCost[post][earlier] = 0;
        }
      }
    }

    void addCost(int a, int b, int ifSplit, int ifJoined) {
      int later = Math.max(a, b);
      int earlier = Math.min(a, b);
      splitCost[later][earlier] += ifSplit;
      joinCost[later][earlier] += ifJoined;
    }

    void keepApart(int a, int b) {
      keepApartFrom(a, 1 << b);
      keepApartFrom(b, 1 << a);
    }

    void keepApartFrom(int post, int others) {
      foes[post] |= others;
    }

    void keepTogether(int a, int b) {
      friends[a] |= 1 << b;
      friends[b] |= 1 << a;
    }

    void wantParts(int k) {
      fewestParts = k;
      mostParts = k;
    }

    void run() {
      bestCost = BEYOND;
      for (int q = 0; q < posts; q++) {
        members[q] = 0;
      }
      place(this, 0, 0, 0);
    }

    /** BEYOND if no parting is allowed. */
    int leastCost() {
      return bestCost;
    }

    int partOf(int post) {
      return bestPart[post];
    }

    /**
     * Lays this post and all later ones in every allowed way. Partings come in order and no cost is
     * below 0: whoever isn't cheaper than the best so far can neither replace it nor become cheaper.
     */
    private static void place(Search s, int post, int parts, int cost) {
      if (cost >= s.bestCost || parts + s.posts - post < s.fewestParts) {
        return;
      }
      if (post >= s.posts) {
        s.keepBest(cost);
        return;
      }
      s.weigh(post, parts);
      int bit = 1 << post;
      for (int q = 0; q <= parts && q < s.mostParts; q++) {
        if (s.allows(post, q)) {
          s.part[post] = q;
          s.members[q] |= bit;
          place(s, post + 1, Math.max(parts, q + 1), cost + s.toll[post][q]);
          s.members[q] &= ~bit;
        }
      }
    }

    private boolean allows(int post, int q) {
      int earlier = (1 << post) - 1;
      return (foes[post] & members[q]) == 0 && (friends[post] & earlier & ~members[q]) == 0;
    }

    private void weigh(int post, int parts) {
      int allSplit = 0;
      for (int earlier = 0; earlier < post; earlier++) {
        allSplit += splitCost[post][earlier];
      }
      for (int q = 0; q <= parts && q < MOST_POSTS; q++) {
        toll[post][q] = allSplit;
      }
      for (int earlier = 0; earlier < post; earlier++) {
        toll[post][part[earlier]] += joinCost[post][earlier] - splitCost[post][earlier];
      }
    }

    private void keepBest(int cost) {
      bestCost = cost;
      for (int post = 0; post < posts; post++) {
        bestPart[post] = part[post];
      }
    }
  }
}
