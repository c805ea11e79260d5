import java.math.BigInteger;
import java.util.ArrayList;
import java.util.List;
import java.util.function.Predicate;

/**
 * The document again, in another way: lists of beans, linked nodes and big fractions. It is slow and
 * is written from the document's words alone, so that it shares no thought with the class.
 */
final class Model {
  static final class Bean {
    final int number;
    final int[] measures;
    int sort;
    boolean check;

    Bean(int number, int[] measures, int sort) {
      this.number = number;
      this.measures = measures;
      this.sort = sort;
    }
  }

  record Fraction(BigInteger above, BigInteger below) {
    static Fraction of(long above, long below) {
      return new Fraction(BigInteger.valueOf(above), BigInteger.valueOf(below)).reduced();
    }

    Fraction reduced() {
      BigInteger common = above.gcd(below);
      return new Fraction(above.divide(common), below.divide(common));
    }

    Fraction plus(Fraction o) {
      return new Fraction(above.multiply(o.below).add(o.above.multiply(below)), below.multiply(o.below))
          .reduced();
    }

    Fraction less(Fraction o) {
      return plus(new Fraction(o.above.negate(), o.below));
    }

    int compare(Fraction o) {
      return above.multiply(o.below).compareTo(o.above.multiply(below));
    }
  }

  record Cut(int measure, int number) {
    boolean low(int[] measures) {
      return measures[measure] <= number;
    }
  }

  static final class Node {
    int depth;
    int sort;
    int grown;
    Cut cut;
    Node low;
    Node high;

    void row(List<Node> row) {
      row.add(this);
      if (cut != null) {
        low.row(row);
        high.row(row);
      }
    }

    int says(int[] measures) {
      if (cut == null) {
        return sort;
      }
      return (cut.low(measures) ? low : high).says(measures);
    }

    int prune(List<Bean> by) {
      if (cut == null) {
        return 0;
      }
      int turned = low.prune(some(by, b -> cut.low(b.measures)));
      turned += high.prune(some(by, b -> !cut.low(b.measures)));
      int right = some(by, b -> says(b.measures) == b.sort).size();
      int own = some(by, b -> b.sort == sort).size();
      if (right <= own) {
        cut = null;
        low = null;
        high = null;
        turned++;
      }
      return turned;
    }
  }

  static final class Tree {
    Node root;
    int parts;
    int left;

    List<Node> row() {
      List<Node> row = new ArrayList<>();
      root.row(row);
      return row;
    }

    int right(List<Bean> about) {
      return some(about, b -> root.says(b.measures) == b.sort).size();
    }
  }

  final List<Bean> beans = new ArrayList<>();
  final List<Tree> trees = new ArrayList<>();
  int depth = 3;
  int least = 1;

  static List<Bean> some(List<Bean> of, Predicate<Bean> which) {
    return new ArrayList<>(of.stream().filter(which).toList());
  }

  List<Bean> growing() {
    return some(beans, b -> !b.check);
  }

  List<Bean> checks() {
    return some(beans, b -> b.check);
  }

  static Fraction pure(List<Bean> beans) {
    if (beans.isEmpty()) {
      return Fraction.of(0, 1);
    }
    long squares = 0;
    for (int sort = 0; sort <= 2; sort++) {
      long many = ofSort(beans, sort);
      squares += many * many;
    }
    return Fraction.of(squares, beans.size());
  }

  static int ofSort(List<Bean> beans, int sort) {
    return some(beans, b -> b.sort == sort).size();
  }

  static Fraction gains(List<Bean> beans, Cut cut) {
    List<Bean> low = some(beans, b -> cut.low(b.measures));
    List<Bean> high = some(beans, b -> !cut.low(b.measures));
    return pure(low).plus(pure(high)).less(pure(beans));
  }

  static Cut bestCut(List<Bean> beans, int least) {
    Cut best = null;
    Fraction most = Fraction.of(0, 1);
    for (int measure = 0; measure <= 2; measure++) {
      for (int number = 0; number < 50; number++) {
        Cut cut = new Cut(measure, number);
        int m = measure;
        int n = number;
        int lows = some(beans, b -> cut.low(b.measures)).size();
        boolean had = beans.stream().anyMatch(b -> b.measures[m] == n);
        if (had && lows >= least && beans.size() - lows >= least) {
          Fraction gain = gains(beans, cut);
          if (gain.compare(most) > 0) {
            most = gain;
            best = cut;
          }
        }
      }
    }
    return best;
  }

  static Node grow(List<Bean> beans, int depth, int most, int least) {
    Node node = new Node();
    node.depth = depth;
    node.grown = beans.size();
    for (int sort = 2; sort >= 0; sort--) {
      if (ofSort(beans, sort) >= ofSort(beans, node.sort)) {
        node.sort = sort;
      }
    }
    boolean oneSort = ofSort(beans, node.sort) == beans.size();
    Cut cut = depth == most || oneSort ? null : bestCut(beans, least);
    if (cut != null) {
      node.cut = cut;
      node.low = grow(some(beans, b -> cut.low(b.measures)), depth + 1, most, least);
      node.high = grow(some(beans, b -> !cut.low(b.measures)), depth + 1, most, least);
    }
    return node;
  }

  private static void illegal(boolean unless) {
    if (!unless) {
      throw new IllegalArgumentException();
    }
  }

  private static void index(boolean unless) {
    if (!unless) {
      throw new IndexOutOfBoundsException();
    }
  }

  private static void state(boolean unless) {
    if (!unless) {
      throw new IllegalStateException();
    }
  }

  private static boolean in(int number, int from, int to) {
    return from <= number && number <= to;
  }

  int bean(int a, int b, int c, int sort) {
    illegal(in(a, 0, 50) && in(b, 0, 50) && in(c, 0, 50) && in(sort, 0, 2));
    state(beans.size() < 20);
    beans.add(new Bean(beans.size(), new int[] {a, b, c}, sort));
    return beans.size() - 1;
  }

  int setSort(int bean, int sort) {
    index(in(bean, 0, beans.size() - 1));
    illegal(in(sort, 0, 2));
    int before = beans.get(bean).sort;
    beans.get(bean).sort = sort;
    return before;
  }

  int check(int bean, boolean is) {
    index(in(bean, 0, beans.size() - 1));
    boolean before = beans.get(bean).check;
    beans.get(bean).check = is;
    return before ? 1 : 0;
  }

  int setDepth(int most) {
    illegal(in(most, 1, 5));
    int before = depth;
    depth = most;
    return before;
  }

  int setLeast(int many) {
    illegal(in(many, 1, 6));
    int before = least;
    least = many;
    return before;
  }

  int plant(int parts, int left) {
    illegal(in(parts, 1, 5) && in(left, -1, parts - 1));
    state(trees.size() < 5);
    List<Bean> of = some(growing(), b -> left == -1 || b.number % parts != left);
    state(!of.isEmpty());
    Tree tree = new Tree();
    tree.root = grow(of, 0, depth, least);
    tree.parts = parts;
    tree.left = left;
    trees.add(tree);
    return trees.size() - 1;
  }

  int fell(int tree) {
    index(in(tree, 0, trees.size() - 1));
    trees.remove(tree);
    return trees.size();
  }

  int prune(int tree) {
    index(in(tree, 0, trees.size() - 1));
    return trees.get(tree).root.prune(checks());
  }

  int node(int tree, int place, int what) {
    index(in(tree, 0, trees.size() - 1));
    List<Node> row = trees.get(tree).row();
    index(in(place, 0, row.size() - 1) && in(what, 0, 6));
    Node node = row.get(place);
    return switch (what) {
      case 0 -> node.cut == null ? -1 : node.cut.measure;
      case 1 -> node.cut == null ? -1 : node.cut.number;
      case 2 -> node.sort;
      case 3 -> node.grown;
      case 4 -> node.depth;
      case 5 -> node.cut == null ? -1 : row.indexOf(node.low);
      default -> node.cut == null ? -1 : row.indexOf(node.high);
    };
  }

  int about(int tree, int what) {
    index(in(tree, 0, trees.size() - 1) && in(what, 0, 6));
    Tree asked = trees.get(tree);
    List<Node> row = asked.row();
    return switch (what) {
      case 0 -> row.size();
      case 1 -> (int) row.stream().filter(n -> n.cut == null).count();
      case 2 -> row.stream().mapToInt(n -> n.depth).max().getAsInt();
      case 3 -> asked.right(growing());
      case 4 -> asked.right(checks());
      case 5 -> asked.parts;
      default -> asked.left;
    };
  }

  int told(int bean, int what) {
    index(in(bean, 0, beans.size() - 1) && in(what, 0, 4));
    Bean b = beans.get(bean);
    return what <= 2 ? b.measures[what] : what == 3 ? b.sort : b.check ? 1 : 0;
  }

  int says(int tree, int a, int b, int c) {
    index(in(tree, 0, trees.size() - 1));
    illegal(in(a, 0, 50) && in(b, 0, 50) && in(c, 0, 50));
    return trees.get(tree).root.says(new int[] {a, b, c});
  }

  int vote(int a, int b, int c) {
    illegal(in(a, 0, 50) && in(b, 0, 50) && in(c, 0, 50));
    int[] votes = new int[3];
    for (Tree tree : trees) {
      votes[tree.root.says(new int[] {a, b, c})]++;
    }
    int most = Math.max(votes[0], Math.max(votes[1], votes[2]));
    if (most == 0) {
      return -1;
    }
    return votes[0] == most ? 0 : votes[1] == most ? 1 : 2;
  }

  private int voted(List<Bean> about) {
    return some(about, b -> vote(b.measures[0], b.measures[1], b.measures[2]) == b.sort).size();
  }

  int count(int what) {
    index(in(what, 0, 6));
    return switch (what) {
      case 0 -> beans.size();
      case 1 -> checks().size();
      case 2 -> trees.size();
      case 3 -> voted(growing());
      case 4 -> voted(checks());
      case 5 -> depth;
      default -> least;
    };
  }

  int gain(int measure, int at, int what) {
    index(in(measure, 0, 2) && in(what, 0, 1));
    illegal(in(at, 0, 50));
    Fraction gain = gains(growing(), new Cut(measure, at));
    return (what == 0 ? gain.above : gain.below).intValueExact();
  }

  int best(int what) {
    index(in(what, 0, 1));
    Cut cut = bestCut(growing(), least);
    return cut == null ? -1 : what == 0 ? cut.measure : cut.number;
  }

  int would(int most, int many, int what) {
    illegal(in(most, 1, 5) && in(many, 1, 6));
    index(in(what, 0, 2));
    if (growing().isEmpty()) {
      return 0;
    }
    Tree tree = new Tree();
    tree.root = grow(growing(), 0, most, many);
    return what == 0 ? tree.row().size() : tree.right(what == 1 ? growing() : checks());
  }

  int advise() {
    if (growing().isEmpty()) {
      return -1;
    }
    int best = 5;
    for (int most = 5; most >= 1; most--) {
      if (would(most, least, 2) >= would(best, least, 2)) {
        best = most;
      }
    }
    return best;
  }

  double mean() {
    int nodes = 0;
    for (Tree tree : trees) {
      nodes += tree.row().size();
    }
    return trees.isEmpty() ? 0.0 : (double) nodes / trees.size();
  }

  long digest() {
    List<Integer> numbers = new ArrayList<>();
    for (int what = 0; what < 7; what++) {
      numbers.add(count(what));
    }
    for (int bean = 0; bean < beans.size(); bean++) {
      for (int what = 0; what < 5; what++) {
        numbers.add(told(bean, what));
      }
    }
    for (int tree = 0; tree < trees.size(); tree++) {
      for (int what = 0; what < 7; what++) {
        numbers.add(about(tree, what));
      }
      for (int place = 0; place < about(tree, 0); place++) {
        for (int what = 0; what < 7; what++) {
          numbers.add(node(tree, place, what));
        }
      }
    }
    long d = 1699;
    for (int x : numbers) {
      d = d * 31 + x;
    }
    return d;
  }
}
