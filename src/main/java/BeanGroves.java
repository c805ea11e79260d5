/**
 * A sorter of beans by trees: beans with three measures and a sort, trees that are grown of them
 * fork by fork, pruned by checks, and a grove of them that votes. What each call answers is promised
 * in the document, ../shared/DOC.md.
 */
public final class BeanGroves {

  private static final int MEASURES = 3;
  private static final int SORTS = 3;
  private static final int MOST_MEASURE = 50;
  private static final int MOST_BEANS = 20;
  private static final int MOST_TREES = 5;
  private static final int MOST_DEPTH = 5;
  private static final int MOST_LEAST = 6;
  private static final int MOST_PARTS = 5;

  /** No leaf is grown without a bean, so there are 20 leaves and 19 forks at the most. */
  private static final int MOST_NODES = 2 * MOST_BEANS - 1;

  /**
   * A cut is held as one number, its measure * NUMBERS + its number: so cuts that stand in their
   * order stand by measure, then by number, as the choice of the best one wants them.
   */
  private static final int NUMBERS = MOST_MEASURE + 1;

  private static final int CUTS = MEASURES * NUMBERS;

  /** What is told where there is no cut, no part, no sort or no depth. */
  private static final int NONE = -1;

  private static final long DIGEST_START = 1699;
  private static final long DIGEST_FACTOR = 31;

  private final Beans beans = new Beans();

  /** Those that stand come first; the others wait behind them, so that no call makes a tree. */
  private final Tree[] trees = new Tree[MOST_TREES];

  /** The tree that is grown to tell what would be; it never stands. */
  private final Tree trial = new Tree();

  private int standing = 0;
  private int depth = 3;
  private int least = 1;

  public BeanGroves() {
    for (int tree = 0; tree < MOST_TREES; tree++) {
      trees[tree] = new Tree();
    }
  }

  // ---- beans

  public int bean(int a, int b, int c, int sort)
      throws IllegalArgumentException, IllegalStateException {
    if (!areMeasures(a, b, c)) {
      throw new IllegalArgumentException("a measure is not 0 to 50");
    }
    if (!isSort(sort)) {
      throw new IllegalArgumentException("the sort is not 0 to 2");
    }
    if (beans.howMany() >= MOST_BEANS) {
      throw new IllegalStateException("there are 20 beans");
    }
    return beans.add(a, b, c, sort);
  }

  public int setSort(int bean, int sort)
      throws IndexOutOfBoundsException, IllegalArgumentException {
    if (!isBean(bean)) {
      throw new IndexOutOfBoundsException("no such bean");
    }
    if (!isSort(sort)) {
      throw new IllegalArgumentException("the sort is not 0 to 2");
    }
    int before = beans.sortOf(bean);
    beans.giveSort(bean, sort);
    return before;
  }

  public boolean check(int bean, boolean is) throws IndexOutOfBoundsException {
    if (!isBean(bean)) {
      throw new IndexOutOfBoundsException("no such bean");
    }
    boolean before = beans.isCheck(bean);
    beans.makeCheck(bean, is);
    return before;
  }

  public int setDepth(int most) throws IllegalArgumentException {
    if (!isDepth(most)) {
      throw new IllegalArgumentException("the depth is not 1 to 5");
    }
    int before = depth;
    depth = most;
    return before;
  }

  public int setLeast(int many) throws IllegalArgumentException {
    if (!isLeast(many)) {
      throw new IllegalArgumentException("the least number is not 1 to 6");
    }
    int before = least;
    least = many;
    return before;
  }

  // ---- trees

  public int plant(int parts, int left) throws IllegalArgumentException, IllegalStateException {
    if (parts < 1 || parts > MOST_PARTS) {
      throw new IllegalArgumentException("parts is not 1 to 5");
    }
    if (left < -1 || left >= parts) {
      throw new IllegalArgumentException("left is not -1 to parts - 1");
    }
    if (standing >= MOST_TREES) {
      throw new IllegalStateException("there are 5 trees");
    }
    int set = beans.growingBut(parts, left);
    if (set == 0) {
      throw new IllegalStateException("there are no beans to grow a tree of");
    }
    Tree planted = trees[standing];
    planted.grow(beans, set, depth, least);
    planted.remember(parts, left);
    standing++;
    return standing - 1;
  }

  public int fell(int tree) throws IndexOutOfBoundsException {
    if (!isTree(tree)) {
      throw new IndexOutOfBoundsException("no such tree");
    }
    Tree felled = trees[tree];
    standing--;
    for (int behind = tree; behind < standing; behind++) {
      trees[behind] = trees[behind + 1];
    }
    trees[standing] = felled;
    return standing;
  }

  public int prune(int tree) throws IndexOutOfBoundsException {
    if (!isTree(tree)) {
      throw new IndexOutOfBoundsException("no such tree");
    }
    return trees[tree].pruneBy(beans, beans.checks());
  }

  // ---- what there is

  public int node(int tree, int place, int what) throws IndexOutOfBoundsException {
    if (!isTree(tree) || !trees[tree].hasPlace(place)) {
      throw new IndexOutOfBoundsException("no such tree or place");
    }
    if (what < 0 || what > 6) {
      throw new IndexOutOfBoundsException("what is not 0 to 6");
    }
    Tree asked = trees[tree];
    switch (what) {
      case 0: return asked.measureAt(place);
      case 1: return asked.numberAt(place);
      case 2: return asked.sortAt(place);
      case 3: return asked.grownAt(place);
      case 4: return asked.depthAt(place);
      case 5: return asked.lowPartAt(place);
      default: return asked.highPartAt(place);
    }
  }

  public int about(int tree, int what) throws IndexOutOfBoundsException {
    if (!isTree(tree)) {
      throw new IndexOutOfBoundsException("no such tree");
    }
    if (what < 0 || what > 6) {
      throw new IndexOutOfBoundsException("what is not 0 to 6");
    }
    Tree asked = trees[tree];
    switch (what) {
      case 0: return asked.howManyNodes();
      case 1: return asked.howManyLeaves();
      case 2: return asked.deepest();
      case 3: return asked.rightAbout(beans, beans.growing());
      case 4: return asked.rightAbout(beans, beans.checks());
      case 5: return asked.partsTold();
      default: return asked.leftTold();
    }
  }

  public int told(int bean, int what) throws IndexOutOfBoundsException {
    if (!isBean(bean)) {
      throw new IndexOutOfBoundsException("no such bean");
    }
    if (what < 0 || what > 4) {
      throw new IndexOutOfBoundsException("what is not 0 to 4");
    }
    if (what < MEASURES) {
      return beans.measureOf(bean, what);
    }
    if (what == 3) {
      return beans.sortOf(bean);
    }
    return beans.isCheck(bean) ? 1 : 0;
  }

  public int says(int tree, int a, int b, int c)
      throws IndexOutOfBoundsException, IllegalArgumentException {
    if (!isTree(tree)) {
      throw new IndexOutOfBoundsException("no such tree");
    }
    if (!areMeasures(a, b, c)) {
      throw new IllegalArgumentException("a measure is not 0 to 50");
    }
    return trees[tree].sortFor(a, b, c);
  }

  public int vote(int a, int b, int c) throws IllegalArgumentException {
    if (!areMeasures(a, b, c)) {
      throw new IllegalArgumentException("a measure is not 0 to 50");
    }
    return votedFor(a, b, c);
  }

  public int count(int what) throws IndexOutOfBoundsException {
    if (what < 0 || what > 6) {
      throw new IndexOutOfBoundsException("what is not 0 to 6");
    }
    switch (what) {
      case 0: return beans.howMany();
      case 1: return Integer.bitCount(beans.checks());
      case 2: return standing;
      case 3: return votedRight(beans.growing());
      case 4: return votedRight(beans.checks());
      case 5: return depth;
      default: return least;
    }
  }

  // ---- what would be

  public int gain(int measure, int at, int what)
      throws IndexOutOfBoundsException, IllegalArgumentException {
    if (measure < 0 || measure >= MEASURES) {
      throw new IndexOutOfBoundsException("the measure is not 0 to 2");
    }
    if (what < 0 || what > 1) {
      throw new IndexOutOfBoundsException("what is not 0 or 1");
    }
    if (!isMeasure(at)) {
      throw new IllegalArgumentException("the number is not 0 to 50");
    }
    int set = beans.growing();
    int low = beans.lowOf(set, measure * NUMBERS + at);
    int above = beans.gainAbove(set, low);
    if (above == 0) {
      return what == 0 ? 0 : 1;
    }
    int below = gainBelow(set, low);
    return (what == 0 ? above : below) / commonDivisor(above, below);
  }

  public int best(int what) throws IndexOutOfBoundsException {
    if (what < 0 || what > 1) {
      throw new IndexOutOfBoundsException("what is not 0 or 1");
    }
    int cut = beans.bestCut(beans.growing(), least);
    return what == 0 ? measureOfCut(cut) : numberOfCut(cut);
  }

  public int would(int most, int many, int what)
      throws IllegalArgumentException, IndexOutOfBoundsException {
    if (!isDepth(most)) {
      throw new IllegalArgumentException("the depth is not 1 to 5");
    }
    if (!isLeast(many)) {
      throw new IllegalArgumentException("the least number is not 1 to 6");
    }
    if (what < 0 || what > 2) {
      throw new IndexOutOfBoundsException("what is not 0 to 2");
    }
    int set = beans.growing();
    if (set == 0) {
      return 0;
    }
    trial.grow(beans, set, most, many);
    switch (what) {
      case 0: return trial.howManyNodes();
      case 1: return trial.rightAbout(beans, set);
      default: return trial.rightAbout(beans, beans.checks());
    }
  }

  public int advise() {
    int set = beans.growing();
    if (set == 0) {
      return NONE;
    }
    int advised = NONE;
    int mostRight = -1;
    for (int most = 1; most <= MOST_DEPTH; most++) {
      trial.grow(beans, set, most, least);
      int right = trial.rightAbout(beans, beans.checks());
      if (right > mostRight) {
        mostRight = right;
        advised = most;
      }
    }
    return advised;
  }

  public double mean() {
    if (standing == 0) {
      return 0;
    }
    int nodes = 0;
    for (int tree = 0; tree < standing; tree++) {
      nodes += trees[tree].howManyNodes();
    }
    return nodes / (double) standing;
  }

  public long digest() {
    long d = DIGEST_START;
    for (int what = 0; what <= 6; what++) {
      d = d * DIGEST_FACTOR + count(what);
    }
    for (int bean = 0; bean < beans.howMany(); bean++) {
      for (int what = 0; what <= 4; what++) {
        d = d * DIGEST_FACTOR + told(bean, what);
      }
    }
    for (int tree = 0; tree < standing; tree++) {
      d = digestTree(d, tree);
    }
    return d;
  }

  // ---- what the calls share

  private long digestTree(long before, int tree) {
    long d = before;
    for (int what = 0; what <= 6; what++) {
      d = d * DIGEST_FACTOR + about(tree, what);
    }
    for (int place = 0; place < trees[tree].howManyNodes(); place++) {
      for (int what = 0; what <= 6; what++) {
        d = d * DIGEST_FACTOR + node(tree, place, what);
      }
    }
    return d;
  }

  private int votedFor(int a, int b, int c) {
    int voted = NONE;
    int most = 0;
    for (int sort = 0; sort < SORTS; sort++) {
      int many = 0;
      for (int tree = 0; tree < standing; tree++) {
        if (trees[tree].sortFor(a, b, c) == sort) {
          many++;
        }
      }
      if (many > most) {
        most = many;
        voted = sort;
      }
    }
    return voted;
  }

  private int votedRight(int set) {
    int right = 0;
    for (int bean = 0; bean < beans.howMany(); bean++) {
      int a = beans.measureOf(bean, 0);
      int b = beans.measureOf(bean, 1);
      int c = beans.measureOf(bean, 2);
      if (isIn(set, bean) && votedFor(a, b, c) == beans.sortOf(bean)) {
        right++;
      }
    }
    return right;
  }

  private boolean isBean(int bean) {
    return bean >= 0 && bean < beans.howMany();
  }

  private boolean isTree(int tree) {
    return tree >= 0 && tree < standing;
  }

  private static boolean isMeasure(int number) {
    return number >= 0 && number <= MOST_MEASURE;
  }

  private static boolean areMeasures(int a, int b, int c) {
    return isMeasure(a) && isMeasure(b) && isMeasure(c);
  }

  private static boolean isSort(int sort) {
    return sort >= 0 && sort < SORTS;
  }

  private static boolean isDepth(int most) {
    return most >= 1 && most <= MOST_DEPTH;
  }

  private static boolean isLeast(int many) {
    return many >= 1 && many <= MOST_LEAST;
  }

  private static boolean isIn(int set, int bean) {
    return (set & (1 << bean)) != 0;
  }

  private static int measureOfCut(int cut) {
    return cut < 0 ? NONE : cut / NUMBERS;
  }

  private static int numberOfCut(int cut) {
    return cut < 0 ? NONE : cut % NUMBERS;
  }

  /** The number below of what a cut gains, not reduced; 0 if all beans are on one side. */
  private static int gainBelow(int set, int low) {
    return Integer.bitCount(set) * Integer.bitCount(low) * Integer.bitCount(set & ~low);
  }

  /** The greatest one of two numbers from 1 on; 47 turns are enough for any two ints. */
  private static int commonDivisor(int one, int other) {
    int divisor = one;
    int rest = other;
    for (int turn = 0; turn < 47 && rest > 0; turn++) {
      int next = divisor % rest;
      divisor = rest;
      rest = next;
    }
    return divisor < 1 ? 1 : divisor;
  }

  /**
   * The beans. A set of them is an int in which the bit n is the bean n, so that sides of cuts and
   * counts take no rows of their own.
   */
  private static final class Beans {

    private final int[][] measures = new int[MEASURES][MOST_BEANS];
    private final int[] sorts = new int[MOST_BEANS];

    /** For each sort the set of its beans. */
    private final int[] ofSort = new int[SORTS];

    /** For each cut the set of all beans that are low by it. */
    private final int[] lowByCut = new int[CUTS];

    private int many = 0;
    private int checks = 0;

    int howMany() {
      return many;
    }

    int add(int a, int b, int c, int sort) {
      int bean = many;
      many++;
      addMeasure(bean, 0, a);
      addMeasure(bean, 1, b);
      addMeasure(bean, 2, c);
      sorts[bean] = sort;
      ofSort[sort] |= 1 << bean;
      return bean;
    }

    private void addMeasure(int bean, int measure, int number) {
      measures[measure][bean] = number;
      for (int at = number; at < NUMBERS; at++) {
        lowByCut[measure * NUMBERS + at] |= 1 << bean;
      }
    }

    int measureOf(int bean, int measure) {
      return measures[measure][bean];
    }

    int sortOf(int bean) {
      return sorts[bean];
    }

    void giveSort(int bean, int sort) {
      ofSort[sorts[bean]] &= ~(1 << bean);
      ofSort[sort] |= 1 << bean;
      sorts[bean] = sort;
    }

    boolean isCheck(int bean) {
      return isIn(checks, bean);
    }

    void makeCheck(int bean, boolean is) {
      checks = is ? checks | (1 << bean) : checks & ~(1 << bean);
    }

    int checks() {
      return checks;
    }

    int growing() {
      return ((1 << many) - 1) & ~checks;
    }

    int growingBut(int parts, int left) {
      int set = growing();
      for (int bean = 0; bean < many; bean++) {
        if (parts > 0 && bean % parts == left) {
          set &= ~(1 << bean);
        }
      }
      return set;
    }

    int howManyOfSort(int set, int sort) {
      return Integer.bitCount(set & ofSort[sort]);
    }

    int mostOf(int set) {
      int sortOfMost = 0;
      for (int sort = 1; sort < SORTS; sort++) {
        if (howManyOfSort(set, sort) > howManyOfSort(set, sortOfMost)) {
          sortOfMost = sort;
        }
      }
      return sortOfMost;
    }

    int lowOf(int set, int cut) {
      return set & lowByCut[cut];
    }

    private int squares(int set) {
      int sum = 0;
      for (int sort = 0; sort < SORTS; sort++) {
        int ofIt = howManyOfSort(set, sort);
        sum += ofIt * ofIt;
      }
      return sum;
    }

    /** The number above of what a cut gains, over gainBelow; 0 if all beans are on one side. */
    int gainAbove(int set, int low) {
      int high = set & ~low;
      int all = Integer.bitCount(set);
      int lows = Integer.bitCount(low);
      int highs = Integer.bitCount(high);
      return squares(low) * highs * all + squares(high) * lows * all - squares(set) * lows * highs;
    }

    /**
     * The best cut, or NONE. Cuts are tried by measure, then by number, and a later one must gain
     * more, so the first one of several stays.
     */
    int bestCut(int set, int least) {
      int best = NONE;
      long bestAbove = 0;
      long bestBelow = 1;
      for (int measure = 0; measure < MEASURES; measure++) {
        int lowBefore = 0;
        for (int at = 0; at < MOST_MEASURE; at++) {
          int low = lowOf(set, measure * NUMBERS + at);
          if (low != lowBefore && leavesBoth(set, low, least)) {
            long above = gainAbove(set, low);
            long below = gainBelow(set, low);
            if (above * bestBelow > bestAbove * below) {
              best = measure * NUMBERS + at;
              bestAbove = above;
              bestBelow = below;
            }
          }
          lowBefore = low;
        }
      }
      return best;
    }

    private static boolean leavesBoth(int set, int low, int least) {
      return Integer.bitCount(low) >= least && Integer.bitCount(set & ~low) >= least;
    }
  }

  /**
   * A tree, as the row of its nodes. The order of the row and the depths alone tell which node is a
   * part of which, and pruning changes neither, so no links are held that could go astray.
   */
  private static final class Tree {

    private final int[] cuts = new int[MOST_NODES];
    private final int[] sorts = new int[MOST_NODES];
    private final int[] grown = new int[MOST_NODES];
    private final int[] depths = new int[MOST_NODES];

    /** For each place the set of the beans that come to it, of those that were last sent in. */
    private final int[] comes = new int[MOST_NODES];

    /** For each place about how many of these it is right, while the tree is pruned. */
    private final int[] rights = new int[MOST_NODES];

    private int nodes = 0;
    private int parts = 1;
    private int left = NONE;

    void remember(int partsTold, int leftTold) {
      parts = partsTold;
      left = leftTold;
    }

    int partsTold() {
      return parts;
    }

    int leftTold() {
      return left;
    }

    /** Beans of one sort need no test of their own: no cut gains anything for them. */
    void grow(Beans beans, int set, int most, int least) {
      nodes = 1;
      putLeaf(beans, 0, set, 0);
      for (int place = 0; place < nodes && place < MOST_NODES; place++) {
        if (depths[place] < most && nodes + 2 <= MOST_NODES) {
          int cut = beans.bestCut(comes[place], least);
          if (cut >= 0) {
            fork(beans, place, cut);
          }
        }
      }
    }

    private void putLeaf(Beans beans, int place, int set, int depth) {
      cuts[place] = NONE;
      sorts[place] = beans.mostOf(set);
      grown[place] = Integer.bitCount(set);
      depths[place] = depth;
      comes[place] = set;
    }

    private void fork(Beans beans, int place, int cut) {
      for (int behind = nodes - 1; behind > place; behind--) {
        copyNode(behind, behind + 2);
      }
      nodes += 2;
      int low = beans.lowOf(comes[place], cut);
      cuts[place] = cut;
      putLeaf(beans, place + 1, low, depths[place] + 1);
      putLeaf(beans, place + 2, comes[place] & ~low, depths[place] + 1);
    }

    private void copyNode(int from, int to) {
      cuts[to] = cuts[from];
      sorts[to] = sorts[from];
      grown[to] = grown[from];
      depths[to] = depths[from];
      comes[to] = comes[from];
    }

    int pruneBy(Beans beans, int set) {
      send(beans, set);
      int turned = 0;
      for (int place = nodes - 1; place >= 0; place--) {
        rights[place] = beans.howManyOfSort(comes[place], sorts[place]);
        int high = highPartAt(place);
        if (high >= 0) {
          int rightByParts = rights[place + 1] + rights[high];
          if (rightByParts > rights[place]) {
            rights[place] = rightByParts;
          } else {
            cuts[place] = NONE;
            turned++;
          }
        }
      }
      dropNodesBelowLeaves();
      return turned;
    }

    private void dropNodesBelowLeaves() {
      int kept = 0;
      int keptDepth = MOST_DEPTH;
      for (int place = 0; place < nodes; place++) {
        if (depths[place] <= keptDepth) {
          keptDepth = cuts[place] < 0 ? depths[place] : MOST_DEPTH;
          copyNode(place, kept);
          kept++;
        }
      }
      nodes = kept;
    }

    int rightAbout(Beans beans, int set) {
      send(beans, set);
      int right = 0;
      for (int place = 0; place < nodes; place++) {
        if (cuts[place] < 0) {
          right += beans.howManyOfSort(comes[place], sorts[place]);
        }
      }
      return right;
    }

    /** Sends a set of beans in at the root, so that comes tells them for each place. */
    private void send(Beans beans, int set) {
      comes[0] = set;
      for (int place = 0; place < nodes; place++) {
        int high = highPartAt(place);
        if (high >= 0) {
          int low = beans.lowOf(comes[place], cuts[place]);
          comes[place + 1] = low;
          comes[high] = comes[place] & ~low;
        }
      }
    }

    int sortFor(int a, int b, int c) {
      int place = 0;
      int high = highPartAt(0);
      for (int level = 0; level < MOST_DEPTH && high >= 0; level++) {
        int measure = measureOfCut(cuts[place]);
        int number = measure == 0 ? a : measure == 1 ? b : c;
        place = number <= numberOfCut(cuts[place]) ? place + 1 : high;
        high = highPartAt(place);
      }
      return sorts[place];
    }

    boolean hasPlace(int place) {
      return place >= 0 && place < nodes;
    }

    int measureAt(int place) {
      return measureOfCut(cuts[place]);
    }

    int numberAt(int place) {
      return numberOfCut(cuts[place]);
    }

    int sortAt(int place) {
      return sorts[place];
    }

    int grownAt(int place) {
      return grown[place];
    }

    int depthAt(int place) {
      return depths[place];
    }

    int lowPartAt(int place) {
      return cuts[place] < 0 ? NONE : place + 1;
    }

    /** Between a low part and its high one there are only deeper nodes. */
    int highPartAt(int place) {
      if (cuts[place] < 0) {
        return NONE;
      }
      for (int behind = place + 2; behind < nodes; behind++) {
        if (depths[behind] == depths[place] + 1) {
          return behind;
        }
      }
      return NONE;
    }

    int howManyNodes() {
      return nodes;
    }

    int howManyLeaves() {
      int leaves = 0;
      for (int place = 0; place < nodes; place++) {
        if (cuts[place] < 0) {
          leaves++;
        }
      }
      return leaves;
    }

    int deepest() {
      int deepest = 0;
      for (int place = 0; place < nodes; place++) {
        deepest = Math.max(deepest, depths[place]);
      }
      return deepest;
    }
  }
}
