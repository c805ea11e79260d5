import java.util.ArrayList;
import java.util.List;
import java.util.function.Consumer;

/** Objects that several tests begin with, and what can be asked of any one. */
final class Sample {
  static final Class<?> ILLEGAL = IllegalArgumentException.class;
  static final Class<?> INDEX = IndexOutOfBoundsException.class;
  static final Class<?> STATE = IllegalStateException.class;
  static final int MIN = Integer.MIN_VALUE;
  static final int MAX = Integer.MAX_VALUE;

  private Sample() {}

  /** One below and one above a range, the smallest and the largest int. */
  static int[] outside(int least, int most) {
    return new int[] {least - 1, most + 1, MIN, MAX};
  }

  /** Beans with their measure 0 in a row, each of its sort; the other measures are 0. */
  static BeanGroves along(int[] measures, int[] sorts) {
    BeanGroves x = new BeanGroves();
    for (int bean = 0; bean < measures.length; bean++) {
      x.bean(measures[bean], 0, 0, sorts[bean]);
    }
    return x;
  }

  /** Beans whose measure 0 is 1, 2, 3 and so on. */
  static BeanGroves inTurn(int... sorts) {
    BeanGroves x = new BeanGroves();
    for (int bean = 0; bean < sorts.length; bean++) {
      x.bean(bean + 1, 0, 0, sorts[bean]);
    }
    return x;
  }

  /** Pure 25/7; the cut at 1 gains 3/7, that at 3 gains 2/21 and so does that at 4. */
  static BeanGroves ladder() {
    return inTurn(0, 1, 0, 1, 0, 1, 0);
  }

  /** Grows to a fork at 11 (sort 0): a leaf (1), and a fork at 22 (0): a leaf (0), a leaf (2). */
  static BeanGroves highFork() {
    return along(new int[] {10, 11, 20, 21, 22, 30}, new int[] {1, 1, 0, 0, 0, 2});
  }

  /** Grows to a fork at 20 (sort 0): a fork at 10 (0): a leaf (2), a leaf (0); and a leaf (1). */
  static BeanGroves lowFork() {
    return along(new int[] {10, 18, 19, 20, 29, 30}, new int[] {2, 0, 0, 0, 1, 1});
  }

  /** Grows to a fork by measure 1 at 5: a fork by measure 2 at 30 with leaves 2 and 1; a leaf 0. */
  static BeanGroves byOtherMeasures() {
    BeanGroves x = new BeanGroves();
    x.bean(0, 5, 30, 2);
    x.bean(0, 5, 40, 1);
    x.bean(0, 45, 30, 0);
    x.bean(0, 45, 40, 0);
    x.plant(1, -1);
    return x;
  }

  /** No cut gains anything: on either side of each there are as many of either sort. */
  static BeanGroves cross() {
    BeanGroves x = new BeanGroves();
    x.bean(10, 10, 0, 0);
    x.bean(10, 40, 0, 1);
    x.bean(40, 10, 0, 1);
    x.bean(40, 40, 0, 0);
    return x;
  }

  /** 5 beans are low, 10 high by the one cut there is, with as many of each sort in proportion. */
  static BeanGroves evenParts() {
    BeanGroves x = new BeanGroves();
    for (int sort : new int[] {0, 1, 2, 2, 2}) {
      x.bean(10, 0, 0, sort);
      x.bean(20, 0, 0, sort);
      x.bean(20, 0, 0, sort);
    }
    return x;
  }

  static BeanGroves full() {
    BeanGroves x = new BeanGroves();
    for (int bean = 0; bean < 20; bean++) {
      Due.is("bean " + bean, x.bean(bean, 2 * bean, 50 - bean, bean % 3), bean);
    }
    return x;
  }

  /** Beans of which a tree of depth 5 has a leaf for each: none can have more nodes. */
  static final int[][] OF_LARGEST = {
    {20, 38, 43, 0}, {25, 13, 7, 2}, {28, 15, 47, 1}, {25, 11, 7, 1}, {44, 49, 47, 2},
    {27, 2, 27, 2}, {44, 43, 23, 1}, {20, 20, 24, 2}, {20, 7, 33, 1}, {42, 33, 22, 0},
    {23, 15, 3, 0}, {42, 27, 14, 2}, {41, 19, 11, 0}, {14, 26, 19, 2}, {20, 6, 25, 0},
    {4, 40, 50, 0}, {47, 40, 20, 2}, {0, 30, 50, 1}, {16, 17, 2, 1}, {14, 42, 22, 1},
  };

  /** 20 beans, the depth 5, and the largest tree that there can be. */
  static BeanGroves largest() {
    BeanGroves x = new BeanGroves();
    for (int[] b : OF_LARGEST) {
      x.bean(b[0], b[1], b[2], b[3]);
    }
    x.setDepth(5);
    x.plant(1, -1);
    return x;
  }

  /** Trees of one bean each say its sort: as many trees as sorts are told. */
  static BeanGroves grove(int... sorts) {
    BeanGroves x = inTurn(0, 1, 2);
    for (int sort : sorts) {
      for (int bean = 0; bean < 3; bean++) {
        x.check(bean, bean != sort);
      }
      x.plant(1, -1);
    }
    return x;
  }

  /** 12 beans, 3 of them checks, the depth 4, the least number 2, 3 trees, one of them pruned. */
  static BeanGroves inUse() {
    BeanGroves x = new BeanGroves();
    for (int bean = 0; bean < 12; bean++) {
      int[] b = OF_LARGEST[bean];
      x.bean(b[0], b[1], b[2], b[3]);
    }
    x.setDepth(4);
    x.plant(1, -1);
    x.setLeast(2);
    x.plant(3, 1);
    x.plant(2, 0);
    x.check(4, true);
    x.check(7, true);
    x.check(11, true);
    x.setSort(7, 0);
    x.prune(1);
    return x;
  }

  /** All that there is room for: 20 beans, 4 of them checks, and 5 trees. */
  static BeanGroves noRoom() {
    BeanGroves x = largest();
    x.plant(3, 0);
    x.setLeast(2);
    x.plant(2, 1);
    x.setDepth(2);
    x.plant(5, 4);
    x.plant(4, -1);
    for (int bean = 1; bean < 20; bean += 5) {
      x.check(bean, true);
    }
    return x;
  }

  /** A new object, one in use and one without room. */
  static BeanGroves[] states() {
    return new BeanGroves[] {new BeanGroves(), inUse(), noRoom()};
  }

  static int addCheck(BeanGroves x, int a, int sort) {
    int bean = x.bean(a, 0, 0, sort);
    x.check(bean, true);
    return bean;
  }

  static void allChecks(BeanGroves x) {
    int beans = x.count(0);
    for (int bean = 0; bean < beans; bean++) {
      x.check(bean, true);
    }
  }

  /** What a tree tells of all its nodes, and how many there are. */
  static void row(BeanGroves x, int tree, int what, int... due) {
    Due.is("about(" + tree + ", 0)", x.about(tree, 0), due.length);
    int nodes = Math.min(due.length, x.about(tree, 0));
    for (int place = 0; place < nodes; place++) {
      String call = "node(" + tree + ", " + place + ", " + what + ")";
      Due.is(call, x.node(tree, place, what), due[place]);
    }
  }

  /** A tree that is one leaf, of a sort, grown of so many beans. */
  static void oneLeaf(BeanGroves x, int tree, int sort, int grown) {
    int[] due = {-1, -1, sort, grown, 0, -1, -1};
    Due.is("about(" + tree + ", 0)", x.about(tree, 0), 1);
    Due.is("about(" + tree + ", 1)", x.about(tree, 1), 1);
    Due.is("about(" + tree + ", 2)", x.about(tree, 2), 0);
    for (int what = 0; what <= 6; what++) {
      Due.is("node(" + tree + ", 0, " + what + ")", x.node(tree, 0, what), due[what]);
    }
  }

  static List<Integer> nodes(BeanGroves x, int tree) {
    List<Integer> told = new ArrayList<>();
    int nodes = x.about(tree, 0);
    for (int place = 0; place < nodes; place++) {
      for (int what = 0; what <= 6; what++) {
        told.add(x.node(tree, place, what));
      }
    }
    return told;
  }

  /** What trees tell of their nodes, and what they say, stays whatever is done. */
  static void treesStay(BeanGroves x, String done, Consumer<BeanGroves> made) {
    int trees = x.count(2);
    List<List<Integer>> before = new ArrayList<>();
    for (int tree = 0; tree < trees; tree++) {
      before.add(nodesAndSays(x, tree));
    }
    made.accept(x);
    for (int tree = 0; tree < trees; tree++) {
      boolean same = before.get(tree).equals(nodesAndSays(x, tree));
      Due.isTrue("the tree " + tree + " stays behind " + done, same);
    }
  }

  /** It takes 7 calls for each node, so it is meant for trees of few ones. */
  private static List<Integer> nodesAndSays(BeanGroves x, int tree) {
    List<Integer> told = nodes(x, tree);
    for (int bean = 0; bean < 8; bean++) {
      int[] b = OF_LARGEST[bean];
      told.add(x.says(tree, b[0], b[1], b[2]));
    }
    return told;
  }

  /**
   * What calls that change nothing tell: digest stands for count, told, about and node. It takes
   * 127 calls with 5 trees, so that an object may be asked twice before its 512th call.
   */
  static List<Long> everything(BeanGroves x) {
    List<Long> told = new ArrayList<>();
    told.add(x.digest());
    told.add(Double.doubleToLongBits(x.mean()));
    told.add((long) x.advise());
    told.add((long) x.best(0));
    told.add((long) x.best(1));
    for (int what = 0; what <= 2; what++) {
      for (int most = 1; most <= 5; most += 2) {
        told.add((long) x.would(most, 1, what));
        told.add((long) x.would(most, 2, what));
        told.add((long) x.would(most, 6, what));
      }
      for (int at = 2; at <= 47; at += 5) {
        told.add((long) x.gain(what, at, 0));
        told.add((long) x.gain(what, at, 1));
      }
    }
    for (int at = 0; at <= 40; at += 5) {
      told.add((long) x.vote(at, 50 - at, at + 10));
    }
    int trees = x.count(2);
    for (int tree = 0; tree < trees; tree++) {
      for (int at = 0; at <= 40; at += 10) {
        told.add((long) x.says(tree, at, 50 - at, at + 10));
      }
    }
    return told;
  }

  /** A call that throws: what all the others tell is the same before and behind it. */
  static void refused(BeanGroves x, String call, Class<?> want, Due.Call made) {
    List<Long> before = everything(x);
    Due.thrown(call, want, made);
    Due.isTrue(call + " changes nothing", before.equals(everything(x)));
  }
}
