/** For each promise of the document what it asks, worked out by hand. */
public final class PromisesTest {
  private static final Class<?> ILLEGAL = Sample.ILLEGAL;
  private static final Class<?> INDEX = Sample.INDEX;
  private static final Class<?> STATE = Sample.STATE;
  private static final int MIN = Sample.MIN;
  private static final int MAX = Sample.MAX;

  public static void main(String[] args) {
    newObject();
    bean();
    setSort();
    check();
    setDepth();
    setLeast();
    plant();
    plantLeavingOut();
    growingByTies();
    largestTree();
    treesStay();
    fell();
    pruneTurnsForks();
    pruneCountsForks();
    pruneBySortsOfNow();
    node();
    about();
    told();
    says();
    vote();
    count();
    gain();
    best();
    would();
    advise();
    mean();
    digest();
    manyCalls();
    Due.end();
  }

  private static void newObject() {
    BeanGroves x = new BeanGroves();
    int[] due = {0, 0, 0, 0, 0, 3, 1};
    for (int what = 0; what <= 6; what++) {
      Due.is("count(" + what + ") of a new one", x.count(what), due[what]);
    }
    BeanGroves other = new BeanGroves();
    other.bean(1, 2, 3, 0);
    Due.is("beans of one object when another has one", x.count(0), 0);
  }

  private static void bean() {
    BeanGroves x = new BeanGroves();
    Due.is("bean(0, 50, 0, 0)", x.bean(0, 50, 0, 0), 0);
    Due.is("bean(50, 0, 50, 2)", x.bean(50, 0, 50, 2), 1);
    Due.is("bean(7, 8, 9, 1)", x.bean(7, 8, 9, 1), 2);
    Due.is("told(1, 0)", x.told(1, 0), 50);
    Due.is("told(1, 4)", x.told(1, 4), 0);
    for (int bad : new int[] {-1, 51, MIN, MAX}) {
      Due.thrown("bean with a " + bad, ILLEGAL, () -> x.bean(bad, 0, 0, 0));
      Due.thrown("bean with b " + bad, ILLEGAL, () -> x.bean(0, bad, 0, 0));
      Due.thrown("bean with c " + bad, ILLEGAL, () -> x.bean(0, 0, bad, 0));
    }
    for (int bad : new int[] {-1, 3, MIN, MAX}) {
      Due.thrown("bean of sort " + bad, ILLEGAL, () -> x.bean(0, 0, 0, bad));
    }
    Due.is("beans behind wrong ones", x.count(0), 3);
    BeanGroves full = Sample.full();
    long before = full.digest();
    Due.thrown("the bean 20", STATE, () -> full.bean(0, 0, 0, 0));
    Due.thrown("the bean 20 with a wrong measure", ILLEGAL, () -> full.bean(0, 0, 51, 0));
    Due.thrown("the bean 20 of a wrong sort", ILLEGAL, () -> full.bean(0, 0, 0, 3));
    Due.is("digest behind these", full.digest(), before);
  }

  private static void setSort() {
    BeanGroves x = Sample.highFork();
    Due.is("setSort(0, 2)", x.setSort(0, 2), 1);
    Due.is("setSort(0, 0)", x.setSort(0, 0), 2);
    Due.is("setSort(0, 0) again", x.setSort(0, 0), 0);
    Due.is("told(0, 3)", x.told(0, 3), 0);
    Due.is("told(1, 3)", x.told(1, 3), 1);
    Due.is("gain(0, 10, 0): 1 + 11/5 - 18/6 = 1/5", x.gain(0, 10, 0), 1);
    Due.is("gain(0, 10, 1)", x.gain(0, 10, 1), 5);
    for (int bad : new int[] {-1, 6, MIN, MAX}) {
      Due.thrown("setSort of bean " + bad, INDEX, () -> x.setSort(bad, 0));
      Due.thrown("setSort of bean and sort " + bad, INDEX, () -> x.setSort(bad, 3));
    }
    for (int bad : new int[] {-1, 3, MIN, MAX}) {
      Due.thrown("setSort to " + bad, ILLEGAL, () -> x.setSort(5, bad));
    }
    Due.is("told(5, 3)", x.told(5, 3), 2);
  }

  private static void check() {
    BeanGroves x = Sample.highFork();
    Due.isTrue("check(5, true)", !x.check(5, true));
    Due.isTrue("check(5, true) again", x.check(5, true));
    Due.is("told(5, 4)", x.told(5, 4), 1);
    Due.is("told(4, 4)", x.told(4, 4), 0);
    Due.is("count(1)", x.count(1), 1);
    Due.is("plant(1, -1)", x.plant(1, -1), 0);
    Due.is("node(0, 0, 3): the check is not for growing", x.node(0, 0, 3), 5);
    Due.isTrue("check(5, false)", x.check(5, false));
    Due.isTrue("check(5, false) again", !x.check(5, false));
    Due.is("count(1) then", x.count(1), 0);
    for (int bad : new int[] {-1, 6, MIN, MAX}) {
      Due.thrown("check of bean " + bad, INDEX, () -> x.check(bad, true) ? 1 : 0);
    }
    Due.thrown("check without beans", INDEX, () -> new BeanGroves().check(0, false) ? 1 : 0);
  }

  private static void setDepth() {
    BeanGroves x = Sample.ladder();
    int before = 3;
    for (int most = 1; most <= 5; most++) {
      Due.is("setDepth(" + most + ")", x.setDepth(most), before);
      Due.is("plant down to " + most, x.plant(1, -1), most - 1);
      Due.is("its depth", x.about(most - 1, 2), most);
      Due.is("its nodes", x.about(most - 1, 0), 2 * most + 1);
      before = most;
    }
    for (int bad : new int[] {0, 6, -1, MIN, MAX}) {
      Due.thrown("setDepth(" + bad + ")", ILLEGAL, () -> x.setDepth(bad));
    }
    Due.is("count(5)", x.count(5), 5);
  }

  private static void setLeast() {
    BeanGroves x = Sample.ladder();
    int before = 1;
    int[] cutAt = {1, 3, 3, -1, -1, -1};
    for (int many = 1; many <= 6; many++) {
      Due.is("setLeast(" + many + ")", x.setLeast(many), before);
      Due.is("best(1) with least " + many, x.best(1), cutAt[many - 1]);
      before = many;
    }
    for (int bad : new int[] {0, 7, -1, MIN, MAX}) {
      Due.thrown("setLeast(" + bad + ")", ILLEGAL, () -> x.setLeast(bad));
    }
    Due.is("count(6)", x.count(6), 6);
    BeanGroves twelve = new BeanGroves();
    for (int bean = 0; bean < 12; bean++) {
      twelve.bean(0, 0, bean, bean < 6 ? 2 : 1);
    }
    twelve.setLeast(6);
    Due.is("best(0) with 6 on either side", twelve.best(0), 2);
    Due.is("best(1) with 6 on either side", twelve.best(1), 5);
    twelve.plant(1, -1);
    Sample.row(twelve, 0, 3, 12, 6, 6);
  }

  private static void plant() {
    BeanGroves x = Sample.highFork();
    Due.is("plant(1, -1)", x.plant(1, -1), 0);
    Sample.row(x, 0, 0, 0, -1, 0, -1, -1);
    Sample.row(x, 0, 1, 11, -1, 22, -1, -1);
    Sample.row(x, 0, 2, 0, 1, 0, 0, 2);
    Sample.row(x, 0, 3, 6, 2, 4, 3, 1);
    Sample.row(x, 0, 4, 0, 1, 1, 2, 2);
    for (int bad : new int[] {0, 6, -1, MIN, MAX}) {
      Due.thrown("plant(" + bad + ", 0)", ILLEGAL, () -> x.plant(bad, 0));
      Due.thrown("plant(" + bad + ", -1)", ILLEGAL, () -> x.plant(bad, -1));
    }
    for (int parts = 1; parts <= 5; parts++) {
      int p = parts;
      Due.thrown("plant(" + p + ", " + p + ")", ILLEGAL, () -> x.plant(p, p));
      Due.thrown("plant(" + p + ", -2)", ILLEGAL, () -> x.plant(p, -2));
    }
    Due.thrown("plant(1, 0)", STATE, () -> x.plant(1, 0));
    Due.thrown("plant without beans", STATE, () -> new BeanGroves().plant(1, -1));
    for (int tree = 1; tree < 5; tree++) {
      Due.is("plant(5, 4)", x.plant(5, tree - 1), tree);
    }
    long before = x.digest();
    Due.thrown("the tree 5", STATE, () -> x.plant(1, -1));
    Due.thrown("the tree 5 of wrong parts", ILLEGAL, () -> x.plant(6, -1));
    Due.thrown("the tree 5 with a wrong rest", ILLEGAL, () -> x.plant(2, 2));
    Due.is("digest behind these", x.digest(), before);
    BeanGroves checks = Sample.highFork();
    for (int bean = 0; bean < 6; bean++) {
      checks.check(bean, true);
    }
    Due.thrown("plant with checks alone", STATE, () -> checks.plant(1, -1));
  }

  private static void plantLeavingOut() {
    BeanGroves x = Sample.full();
    int[][] due = {{20}, {10, 10}, {13, 13, 14}, {15, 15, 15, 15}, {16, 16, 16, 16, 16}};
    for (int parts = 1; parts <= 5; parts++) {
      for (int left = parts == 1 ? -1 : 0; left < parts; left++) {
        if (parts == 1 && left == 0) {
          continue;
        }
        x.plant(parts, left);
        String call = "grown with " + parts + ", " + left;
        Due.is(call, x.node(0, 0, 3), due[parts - 1][Math.max(left, 0)]);
        x.fell(0);
      }
      x.plant(parts, -1);
      Due.is("grown with " + parts + ", -1", x.node(0, 0, 3), 20);
      x.fell(0);
    }
    BeanGroves two = Sample.along(new int[] {4, 6}, new int[] {1, 2});
    two.plant(2, 0);
    Due.is("the sort without the bean 0", two.node(0, 0, 2), 2);
    two.plant(2, 1);
    Due.is("the sort without the bean 1", two.node(1, 0, 2), 1);
    two.check(1, true);
    Due.thrown("plant(3, 0) of the bean 0 alone", STATE, () -> two.plant(3, 0));
    Due.is("plant(3, 1) of the bean 0 alone", two.plant(3, 1), 2);
  }

  /** Of several sorts the smallest one, of several cuts that of the smallest measure and number. */
  private static void growingByTies() {
    BeanGroves x = new BeanGroves();
    x.bean(9, 3, 3, 2);
    x.bean(9, 4, 4, 1);
    x.plant(1, -1);
    Sample.row(x, 0, 0, 1, -1, -1);
    Sample.row(x, 0, 1, 3, -1, -1);
    Sample.row(x, 0, 2, 1, 2, 1);
    BeanGroves same = new BeanGroves();
    same.bean(9, 9, 9, 2);
    same.bean(9, 9, 9, 1);
    same.plant(1, -1);
    Sample.row(same, 0, 2, 1);
    BeanGroves cross = Sample.cross();
    cross.plant(1, -1);
    Sample.row(cross, 0, 2, 0);
    BeanGroves ladder = Sample.ladder();
    ladder.setLeast(3);
    ladder.plant(1, -1);
    Sample.row(ladder, 0, 1, 3, -1, -1);
    Sample.row(ladder, 0, 3, 7, 3, 4);
    BeanGroves edge = Sample.along(new int[] {49, 50, 0}, new int[] {0, 1, 1});
    edge.plant(1, -1);
    Sample.row(edge, 0, 1, 0, -1, 49, -1, -1);
  }

  /** Twenty beans of which a tree of depth 5 has a leaf for each: none can have more nodes. */
  private static void largestTree() {
    BeanGroves x = new BeanGroves();
    Model model = new Model();
    for (int[] b : Sample.OF_LARGEST) {
      x.bean(b[0], b[1], b[2], b[3]);
      model.bean(b[0], b[1], b[2], b[3]);
    }
    x.setDepth(5);
    model.setDepth(5);
    for (int tree = 0; tree < 5; tree++) {
      x.plant(1, -1);
      model.plant(1, -1);
    }
    Due.is("nodes of the largest tree", x.about(4, 0), 39);
    Due.is("leaves of the largest tree", x.about(4, 1), 20);
    Due.is("depth of the largest tree", x.about(4, 2), 5);
    Due.is("right of the largest tree", x.about(4, 3), 20);
    Due.is("nodes that it would have", x.would(5, 1, 0), 39);
    Due.is("digest with five of them", x.digest(), model.digest());
    for (int bean = 0; bean < 20; bean += 2) {
      x.check(bean, true);
      model.check(bean, true);
    }
    Due.is("prune of the largest tree", x.prune(3), model.prune(3));
    Due.is("digest behind it", x.digest(), model.digest());
  }

  private static void treesStay() {
    BeanGroves x = Sample.highFork();
    x.plant(1, -1);
    for (int bean = 0; bean < 6; bean++) {
      x.setSort(bean, 2);
    }
    x.check(0, true);
    x.bean(15, 15, 15, 1);
    x.setDepth(1);
    x.setLeast(6);
    Sample.row(x, 0, 1, 11, -1, 22, -1, -1);
    Sample.row(x, 0, 2, 0, 1, 0, 0, 2);
    Sample.row(x, 0, 3, 6, 2, 4, 3, 1);
  }

  private static void fell() {
    BeanGroves x = Sample.full();
    for (int tree = 0; tree < 5; tree++) {
      x.plant(5, tree);
    }
    Due.thrown("fell(5)", INDEX, () -> x.fell(5));
    Due.is("fell(1)", x.fell(1), 4);
    int[] left = {0, 2, 3, 4};
    for (int tree = 0; tree < 4; tree++) {
      Due.is("about(" + tree + ", 6)", x.about(tree, 6), left[tree]);
    }
    Due.thrown("fell(4)", INDEX, () -> x.fell(4));
    Due.is("fell(3)", x.fell(3), 3);
    Due.is("fell(0)", x.fell(0), 2);
    Due.is("about(0, 6)", x.about(0, 6), 2);
    Due.is("plant(4, 1)", x.plant(4, 1), 2);
    Due.is("about(1, 6)", x.about(1, 6), 3);
    Due.is("about(2, 6)", x.about(2, 6), 1);
    Due.is("fell(2)", x.fell(2), 2);
    Due.is("fell(1)", x.fell(1), 1);
    Due.is("fell(0) at last", x.fell(0), 0);
    for (int bad : new int[] {0, -1, MIN, MAX}) {
      Due.thrown("fell(" + bad + ")", INDEX, () -> x.fell(bad));
    }
    Due.thrown("about(0, 0)", INDEX, () -> x.about(0, 0));
  }

  private static void pruneTurnsForks() {
    BeanGroves x = Sample.lowFork();
    x.plant(1, -1);
    Sample.row(x, 0, 6, 4, 3, -1, -1, -1);
    Sample.addCheck(x, 35, 1);
    Due.is("prune where no check comes to the low fork", x.prune(0), 1);
    Sample.row(x, 0, 0, 0, -1, -1);
    Sample.row(x, 0, 1, 20, -1, -1);
    Sample.row(x, 0, 2, 0, 0, 1);
    Sample.row(x, 0, 3, 6, 4, 2);
    Sample.row(x, 0, 4, 0, 1, 1);
    Sample.row(x, 0, 5, 1, -1, -1);
    Sample.row(x, 0, 6, 2, -1, -1);
    Due.is("prune again", x.prune(0), 0);
    Due.is("says(0, 5, 0, 0)", x.says(0, 5, 0, 0), 0);
    BeanGroves high = Sample.highFork();
    high.plant(1, -1);
    high.plant(1, -1);
    Sample.addCheck(high, 5, 1);
    Due.is("prune where no check comes to the high fork", high.prune(1), 1);
    Sample.row(high, 1, 2, 0, 1, 0);
    Sample.row(high, 1, 3, 6, 2, 4);
    Sample.row(high, 0, 2, 0, 1, 0, 0, 2);
    for (int bad : new int[] {-1, 2, MIN, MAX}) {
      Due.thrown("prune(" + bad + ")", INDEX, () -> high.prune(bad));
    }
    BeanGroves leaf = Sample.along(new int[] {7}, new int[] {1});
    leaf.plant(1, -1);
    Sample.addCheck(leaf, 7, 2);
    Due.is("prune of a leaf", leaf.prune(0), 0);
    Sample.row(leaf, 0, 2, 1);
  }

  private static void pruneCountsForks() {
    BeanGroves none = Sample.ladder();
    none.setDepth(5);
    none.plant(1, -1);
    Due.is("prune without checks turns every fork in its turn", none.prune(0), 5);
    Sample.row(none, 0, 2, 0);
    BeanGroves vanish = Sample.highFork();
    vanish.plant(1, -1);
    Sample.addCheck(vanish, 5, 0);
    Sample.addCheck(vanish, 6, 0);
    Sample.addCheck(vanish, 40, 2);
    Due.is("prune where a fork only vanishes", vanish.prune(0), 1);
    Sample.row(vanish, 0, 2, 0);
    BeanGroves even = Sample.highFork();
    even.plant(1, -1);
    Sample.addCheck(even, 5, 0);
    Sample.addCheck(even, 40, 2);
    Due.is("prune where the parts are as good as the node", even.prune(0), 1);
    Sample.row(even, 0, 3, 6);
    BeanGroves better = Sample.highFork();
    better.plant(1, -1);
    Sample.addCheck(better, 10, 1);
    Sample.addCheck(better, 40, 2);
    Due.is("prune where the parts are better", better.prune(0), 0);
    Sample.row(better, 0, 2, 0, 1, 0, 0, 2);
  }

  private static void pruneBySortsOfNow() {
    BeanGroves x = Sample.highFork();
    x.plant(1, -1);
    int late = Sample.addCheck(x, 40, 0);
    int early = Sample.addCheck(x, 5, 1);
    x.setSort(late, 2);
    Due.is("prune by a sort set later", x.prune(0), 0);
    x.check(late, false);
    Due.is("prune without the check that went", x.prune(0), 1);
    Sample.row(x, 0, 2, 0, 1, 0);
    x.setSort(early, 0);
    Due.is("prune by its sort of now", x.prune(0), 1);
    Sample.row(x, 0, 3, 6);
  }

  private static void node() {
    BeanGroves x = Sample.highFork();
    x.plant(1, -1);
    x.setDepth(1);
    x.plant(1, -1);
    Sample.row(x, 0, 5, 1, -1, 3, -1, -1);
    Sample.row(x, 0, 6, 2, -1, 4, -1, -1);
    Sample.row(x, 1, 4, 0, 1, 1);
    for (int bad : new int[] {-1, 2, MIN, MAX}) {
      Due.thrown("node of tree " + bad, INDEX, () -> x.node(bad, 0, 0));
    }
    for (int bad : new int[] {-1, 5, MIN, MAX}) {
      Due.thrown("node at " + bad, INDEX, () -> x.node(0, bad, 0));
    }
    Due.thrown("node(1, 3, 0)", INDEX, () -> x.node(1, 3, 0));
    for (int bad : new int[] {-1, 7, MIN, MAX}) {
      Due.thrown("node of what " + bad, INDEX, () -> x.node(0, 0, bad));
    }
  }

  private static void about() {
    BeanGroves x = Sample.highFork();
    x.plant(2, -1);
    x.plant(3, 2);
    int[] due = {5, 3, 2, 6, 0, 2, -1};
    for (int what = 0; what <= 6; what++) {
      Due.is("about(0, " + what + ")", x.about(0, what), due[what]);
    }
    Due.is("about(1, 5)", x.about(1, 5), 3);
    Due.is("about(1, 6)", x.about(1, 6), 2);
    x.check(5, true);
    x.check(0, true);
    x.setSort(0, 0);
    Due.is("about(0, 3) of the beans for growing that there are now", x.about(0, 3), 4);
    Due.is("about(0, 4) of the checks as they are now", x.about(0, 4), 1);
    x.bean(50, 0, 0, 2);
    Due.is("about(0, 3) with a new bean", x.about(0, 3), 5);
    for (int bad : new int[] {-1, 2, MIN, MAX}) {
      Due.thrown("about of tree " + bad, INDEX, () -> x.about(bad, 0));
    }
    for (int bad : new int[] {-1, 7, MIN, MAX}) {
      Due.thrown("about of what " + bad, INDEX, () -> x.about(0, bad));
    }
  }

  private static void told() {
    BeanGroves x = new BeanGroves();
    x.bean(1, 2, 3, 0);
    x.bean(50, 0, 49, 2);
    x.check(1, true);
    int[][] due = {{1, 2, 3, 0, 0}, {50, 0, 49, 2, 1}};
    for (int bean = 0; bean < 2; bean++) {
      for (int what = 0; what <= 4; what++) {
        Due.is("told(" + bean + ", " + what + ")", x.told(bean, what), due[bean][what]);
      }
    }
    for (int bad : new int[] {-1, 2, MIN, MAX}) {
      Due.thrown("told of bean " + bad, INDEX, () -> x.told(bad, 0));
    }
    for (int bad : new int[] {-1, 5, MIN, MAX}) {
      Due.thrown("told of what " + bad, INDEX, () -> x.told(0, bad));
    }
  }

  private static void says() {
    BeanGroves x = Sample.highFork();
    x.plant(1, -1);
    int[][] due = {{0, 1}, {11, 1}, {12, 0}, {22, 0}, {23, 2}, {50, 2}};
    for (int[] row : due) {
      Due.is("says(0, " + row[0] + ", 50, 0)", x.says(0, row[0], 50, 0), row[1]);
    }
    BeanGroves three = Sample.byOtherMeasures();
    Due.is("says by measures 1 and 2: low, low", three.says(0, 50, 5, 30), 2);
    Due.is("says by measures 1 and 2: low, high", three.says(0, 50, 5, 31), 1);
    Due.is("says by measures 1 and 2: high", three.says(0, 50, 6, 0), 0);
    for (int bad : new int[] {-1, 51, MIN, MAX}) {
      Due.thrown("says of a " + bad, ILLEGAL, () -> x.says(0, bad, 0, 0));
      Due.thrown("says of b " + bad, ILLEGAL, () -> x.says(0, 0, bad, 0));
      Due.thrown("says of c " + bad, ILLEGAL, () -> x.says(0, 0, 0, bad));
    }
    for (int bad : new int[] {-1, 1, MIN, MAX}) {
      Due.thrown("says of tree " + bad, INDEX, () -> x.says(bad, 0, 0, 0));
      Due.thrown("says of tree and a wrong", INDEX, () -> x.says(bad, 51, 0, 0));
    }
  }

  private static void vote() {
    Due.is("vote without trees", new BeanGroves().vote(0, 0, 0), -1);
    Due.is("vote of 2", Sample.grove(2).vote(50, 50, 50), 2);
    Due.is("vote of 2 1", Sample.grove(2, 1).vote(0, 0, 0), 1);
    Due.is("vote of 2 1 0", Sample.grove(2, 1, 0).vote(0, 0, 0), 0);
    Due.is("vote of 0 2 1 2", Sample.grove(0, 2, 1, 2).vote(0, 0, 0), 2);
    Due.is("vote of 2 1 2 1 0", Sample.grove(2, 1, 2, 1, 0).vote(0, 0, 0), 1);
    BeanGroves felled = Sample.grove(2, 1);
    felled.fell(1);
    Due.is("vote behind a felled one", felled.vote(0, 0, 0), 2);
    felled.fell(0);
    Due.is("vote behind all", felled.vote(0, 0, 0), -1);
    for (int bad : new int[] {-1, 51, MIN, MAX}) {
      Due.thrown("vote of a " + bad, ILLEGAL, () -> felled.vote(bad, 0, 0));
      Due.thrown("vote of b " + bad, ILLEGAL, () -> felled.vote(0, bad, 0));
      Due.thrown("vote of c " + bad, ILLEGAL, () -> felled.vote(0, 0, bad));
    }
  }

  private static void count() {
    BeanGroves x = Sample.highFork();
    Sample.addCheck(x, 11, 1);
    Sample.addCheck(x, 12, 1);
    Sample.addCheck(x, 50, 2);
    Due.is("count(3) without trees", x.count(3), 0);
    Due.is("count(4) without trees", x.count(4), 0);
    x.plant(1, -1);
    x.setSort(0, 2);
    x.setDepth(4);
    x.setLeast(2);
    int[] due = {9, 3, 1, 5, 2, 4, 2};
    for (int what = 0; what <= 6; what++) {
      Due.is("count(" + what + ")", x.count(what), due[what]);
    }
    BeanGroves other = Sample.byOtherMeasures();
    Due.is("count(3) by measures 1 and 2", other.count(3), 4);
    other.check(1, true);
    Due.is("count(4) by measures 1 and 2", other.count(4), 1);
    for (int bad : new int[] {-1, 7, MIN, MAX}) {
      Due.thrown("count(" + bad + ")", INDEX, () -> x.count(bad));
    }
  }

  private static void fraction(BeanGroves x, int measure, int at, int above, int below) {
    Due.is("gain(" + measure + ", " + at + ", 0)", x.gain(measure, at, 0), above);
    Due.is("gain(" + measure + ", " + at + ", 1)", x.gain(measure, at, 1), below);
  }

  private static void gain() {
    BeanGroves empty = new BeanGroves();
    fraction(empty, 0, 0, 0, 1);
    fraction(empty, 2, 50, 0, 1);
    BeanGroves x = Sample.ladder();
    fraction(x, 0, 0, 0, 1);
    fraction(x, 0, 1, 3, 7);
    fraction(x, 0, 2, 1, 35);
    fraction(x, 0, 3, 2, 21);
    fraction(x, 0, 7, 0, 1);
    fraction(x, 0, 50, 0, 1);
    fraction(x, 1, 0, 0, 1);
    x.check(6, true);
    fraction(x, 0, 1, 3, 5);
    x.setLeast(6);
    fraction(x, 0, 1, 3, 5);
    fraction(Sample.highFork(), 0, 11, 13, 6);
    for (int bad : new int[] {-1, 3, MIN, MAX}) {
      Due.thrown("gain of measure " + bad, INDEX, () -> x.gain(bad, 0, 0));
      Due.thrown("gain of measure and at wrong", INDEX, () -> x.gain(bad, 51, 0));
    }
    for (int bad : new int[] {-1, 2, MIN, MAX}) {
      Due.thrown("gain of what " + bad, INDEX, () -> x.gain(0, 0, bad));
      Due.thrown("gain of at and what wrong", INDEX, () -> x.gain(0, -1, bad));
    }
    for (int bad : new int[] {-1, 51, MIN, MAX}) {
      Due.thrown("gain of at " + bad, ILLEGAL, () -> x.gain(0, bad, 0));
    }
  }

  private static void best() {
    BeanGroves x = new BeanGroves();
    Due.is("best(0) without beans", x.best(0), -1);
    Due.is("best(1) without beans", x.best(1), -1);
    x.bean(5, 9, 20, 0);
    x.bean(5, 9, 30, 1);
    Due.is("best(0)", x.best(0), 2);
    Due.is("best(1)", x.best(1), 20);
    x.setLeast(2);
    Due.is("best(0) with least 2", x.best(0), -1);
    Due.is("best(1) with least 2", x.best(1), -1);
    x.setLeast(1);
    x.check(1, true);
    Due.is("best(0) of one sort", x.best(0), -1);
    BeanGroves ends = Sample.along(new int[] {0, 50}, new int[] {2, 1});
    Due.is("best(0) of 0 and 50", ends.best(0), 0);
    Due.is("best(1) of 0 and 50", ends.best(1), 0);
    for (int bad : new int[] {-1, 2, MIN, MAX}) {
      Due.thrown("best(" + bad + ")", INDEX, () -> x.best(bad));
    }
  }

  private static void would() {
    BeanGroves x = Sample.ladder();
    x.setLeast(2);
    x.plant(1, -1);
    long before = x.digest();
    for (int most = 1; most <= 5; most++) {
      Due.is("would(" + most + ", 1, 0)", x.would(most, 1, 0), 2 * most + 1);
    }
    Due.is("would(5, 1, 1)", x.would(5, 1, 1), 6);
    Due.is("would(5, 3, 0)", x.would(5, 3, 0), 3);
    Due.is("would(5, 6, 0)", x.would(5, 6, 0), 1);
    Due.is("would(5, 6, 1)", x.would(5, 6, 1), 4);
    Due.is("would(1, 1, 2) without checks", x.would(1, 1, 2), 0);
    Due.is("digest behind these", x.digest(), before);
    Sample.addCheck(x, 2, 1);
    Sample.addCheck(x, 9, 0);
    Due.is("would(1, 1, 2)", x.would(1, 1, 2), 1);
    Due.is("would(2, 1, 2)", x.would(2, 1, 2), 2);
    for (int bad : new int[] {0, 6, MIN, MAX}) {
      Due.thrown("would(" + bad + ", 1, 0)", ILLEGAL, () -> x.would(bad, 1, 0));
      Due.thrown("would(" + bad + ", 1, 3)", ILLEGAL, () -> x.would(bad, 1, 3));
    }
    for (int bad : new int[] {0, 7, MIN, MAX}) {
      Due.thrown("would(1, " + bad + ", 0)", ILLEGAL, () -> x.would(1, bad, 0));
      Due.thrown("would(1, " + bad + ", -1)", ILLEGAL, () -> x.would(1, bad, -1));
    }
    for (int bad : new int[] {-1, 3, MIN, MAX}) {
      Due.thrown("would(1, 1, " + bad + ")", INDEX, () -> x.would(1, 1, bad));
      Due.thrown("would of a new one", INDEX, () -> new BeanGroves().would(1, 1, bad));
    }
    for (int what = 0; what <= 2; what++) {
      Due.is("would(3, 1, what) without beans", new BeanGroves().would(3, 1, what), 0);
    }
    BeanGroves checks = new BeanGroves();
    Sample.addCheck(checks, 0, 0);
    for (int what = 0; what <= 2; what++) {
      Due.is("would(3, 1, what) with checks alone", checks.would(3, 1, what), 0);
    }
  }

  private static void advise() {
    Due.is("advise() without beans", new BeanGroves().advise(), -1);
    BeanGroves x = Sample.highFork();
    Due.is("advise() without checks", x.advise(), 1);
    Sample.addCheck(x, 40, 2);
    long before = x.digest();
    Due.is("advise() where depth 2 is better than 1", x.advise(), 2);
    x.setDepth(1);
    Due.is("advise() whatever the depth is", x.advise(), 2);
    x.setDepth(3);
    Due.is("digest behind these", x.digest(), before);
    x.setLeast(2);
    Due.is("advise() with the least number as it is", x.advise(), 1);
    BeanGroves deep = Sample.ladder();
    Sample.addCheck(deep, 4, 1);
    Due.is("advise() where depth 4 is the first to be right", deep.advise(), 4);
    for (int bean = 0; bean < 7; bean++) {
      deep.check(bean, true);
    }
    Due.is("advise() with checks alone", deep.advise(), -1);
  }

  private static void mean() {
    BeanGroves x = Sample.ladder();
    Due.isTrue("mean() without trees is 0", x.mean() == 0.0);
    x.plant(1, -1);
    Due.isTrue("mean() of 7 is 7", x.mean() == 7.0);
    x.setDepth(1);
    x.plant(1, -1);
    Due.isTrue("mean() of 7 and 3 is 5", x.mean() == 5.0);
    x.setDepth(2);
    x.plant(1, -1);
    x.fell(1);
    Due.isTrue("mean() of 7 and 5 is 6", x.mean() == 6.0);
    x.plant(1, -1);
    Due.isTrue("mean() of 7, 5 and 5", x.mean() == 17.0 / 3.0);
    x.prune(0);
    Due.isTrue("mean() of 1, 5 and 5", x.mean() == 11.0 / 3.0);
  }

  private static long folded(long d, int... numbers) {
    for (int x : numbers) {
      d = d * 31 + x;
    }
    return d;
  }

  private static void digest() {
    BeanGroves x = new BeanGroves();
    Due.is("digest() of a new one", x.digest(), folded(1699, 0, 0, 0, 0, 0, 3, 1));
    x.bean(4, 5, 6, 1);
    x.bean(7, 8, 9, 2);
    Sample.addCheck(x, 5, 2);
    x.plant(4, 3);
    long d = folded(1699, 3, 1, 1, 2, 1, 3, 1);
    d = folded(d, 4, 5, 6, 1, 0, 7, 8, 9, 2, 0, 5, 0, 0, 2, 1);
    d = folded(d, 3, 2, 1, 2, 1, 4, 3);
    d = folded(d, 0, 4, 1, 2, 0, 1, 2, -1, -1, 1, 1, 1, -1, -1, -1, -1, 2, 1, 1, -1, -1);
    Due.is("digest() of three beans and a tree", x.digest(), d);
  }

  /** 512 calls on one object, the dearest ones, leave it as it was. */
  private static void manyCalls() {
    BeanGroves x = Sample.full();
    long before = x.digest();
    int advised = x.advise();
    for (int turn = 0; turn < 240; turn++) {
      Due.is("advise() in turn " + turn, x.advise(), advised);
      x.would(5, 1, 0);
    }
    Due.is("digest behind many calls", x.digest(), before);
  }
}
