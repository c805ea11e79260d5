/** The boundary cases of the promises 10 to 15, a test for each sentence that names one. */
final class BoundariesOfWhatThereIs {
  private static final Class<?> ILLEGAL = Sample.ILLEGAL;
  private static final Class<?> INDEX = Sample.INDEX;

  private BoundariesOfWhatThereIs() {}

  private static BeanGroves planted(BeanGroves x) {
    x.plant(1, -1);
    return x;
  }

  // ---- promise 10: node

  static void promise10Tree() {
    BeanGroves x = planted(planted(Sample.highFork()));
    Due.is("node(0, 0, 1)", x.node(0, 0, 1), 11);
    Due.is("node(1, 0, 1)", x.node(1, 0, 1), 11);
    for (int bad : Sample.outside(0, 1)) {
      Due.thrown("node(" + bad + ", 0, 0)", INDEX, () -> x.node(bad, 0, 0));
    }
  }

  static void promise10NoTree() {
    BeanGroves x = Sample.full();
    for (int bad : Sample.outside(0, -1)) {
      Due.thrown("node(" + bad + ", 0, 0)", INDEX, () -> x.node(bad, 0, 0));
    }
  }

  static void promise10FiveTrees() {
    BeanGroves x = Sample.noRoom();
    Due.is("node(4, 0, 4)", x.node(4, 0, 4), 0);
    Due.thrown("node(5, 0, 4)", INDEX, () -> x.node(5, 0, 4));
  }

  static void promise10Place() {
    BeanGroves x = planted(Sample.highFork());
    Due.is("node(0, 0, 3)", x.node(0, 0, 3), 6);
    Due.is("node(0, 4, 3)", x.node(0, 4, 3), 1);
    for (int bad : Sample.outside(0, 4)) {
      for (int what = 0; what <= 6; what++) {
        int asked = what;
        Due.thrown("node(0, " + bad + ", " + what + ")", INDEX, () -> x.node(0, bad, asked));
      }
    }
  }

  static void promise10PlaceInOneLeaf() {
    BeanGroves x = planted(Sample.along(new int[] {9}, new int[] {2}));
    Sample.oneLeaf(x, 0, 2, 1);
    for (int bad : Sample.outside(0, 0)) {
      Due.thrown("node(0, " + bad + ", 2)", INDEX, () -> x.node(0, bad, 2));
    }
  }

  static void promise10PlaceInTheLargest() {
    BeanGroves x = Sample.largest();
    Due.is("node(0, 38, 3)", x.node(0, 38, 3), 1);
    Due.is("node(0, 38, 0)", x.node(0, 38, 0), -1);
    for (int bad : Sample.outside(0, 38)) {
      Due.thrown("node(0, " + bad + ", 3)", INDEX, () -> x.node(0, bad, 3));
    }
  }

  /** Each tree has places of its own, however many another one has. */
  static void promise10PlaceOfALargerTree() {
    BeanGroves x = planted(Sample.highFork());
    x.setDepth(1);
    x.plant(1, -1);
    Due.is("node(0, 3, 2)", x.node(0, 3, 2), 0);
    Due.thrown("node(1, 3, 2)", INDEX, () -> x.node(1, 3, 2));
    x.fell(0);
    Due.thrown("node(0, 3, 2) then", INDEX, () -> x.node(0, 3, 2));
  }

  /** There is no such place any more, though there was one. */
  static void promise10PlaceBehindPruning() {
    BeanGroves x = planted(Sample.highFork());
    x.prune(0);
    Due.is("node(0, 0, 3)", x.node(0, 0, 3), 6);
    for (int place = 1; place <= 4; place++) {
      int gone = place;
      Due.thrown("node(0, " + place + ", 3)", INDEX, () -> x.node(0, gone, 3));
    }
  }

  static void promise10What() {
    BeanGroves x = planted(Sample.highFork());
    int[] fork = {0, 22, 0, 4, 1, 3, 4};
    int[] leaf = {-1, -1, 2, 1, 2, -1, -1};
    for (int what = 0; what <= 6; what++) {
      Due.is("node(0, 2, " + what + ")", x.node(0, 2, what), fork[what]);
      Due.is("node(0, 4, " + what + ")", x.node(0, 4, what), leaf[what]);
    }
    for (int bad : Sample.outside(0, 6)) {
      Due.thrown("node(0, 2, " + bad + ") of a fork", INDEX, () -> x.node(0, 2, bad));
      Due.thrown("node(0, 4, " + bad + ") of a leaf", INDEX, () -> x.node(0, 4, bad));
    }
  }

  /** The measure 0 and the number 0 of a fork are no -1. */
  static void promise10CutOfZeros() {
    BeanGroves x = planted(Sample.along(new int[] {0, 50}, new int[] {2, 1}));
    Sample.row(x, 0, 0, 0, -1, -1);
    Sample.row(x, 0, 1, 0, -1, -1);
    Sample.row(x, 0, 5, 1, -1, -1);
    Sample.row(x, 0, 6, 2, -1, -1);
  }

  static void promise10CutOfTheLargest() {
    BeanGroves x = new BeanGroves();
    x.bean(7, 7, 49, 0);
    x.bean(7, 7, 50, 1);
    x.plant(1, -1);
    Sample.row(x, 0, 0, 2, -1, -1);
    Sample.row(x, 0, 1, 49, -1, -1);
  }

  static void promise10AsItWasGrownBehindPruning() {
    BeanGroves x = planted(Sample.highFork());
    Sample.addCheck(x, 0, 1);
    x.prune(0);
    int[] due = {-1, -1, 0, 4, 1, -1, -1};
    for (int what = 0; what <= 6; what++) {
      Due.is("node(0, 2, " + what + ")", x.node(0, 2, what), due[what]);
    }
  }

  static void promise10AsItWasGrownBehindChanges() {
    BeanGroves x = planted(Sample.highFork());
    Sample.allChecks(x);
    x.bean(1, 1, 1, 1);
    Sample.row(x, 0, 3, 6, 2, 4, 3, 1);
    Sample.row(x, 0, 4, 0, 1, 1, 2, 2);
  }

  static void promise10RefusedChangesNothing() {
    for (int bad : Sample.outside(0, 38)) {
      for (BeanGroves x : Sample.states()) {
        Sample.refused(x, "node(" + bad + ", 0, 0)", INDEX, () -> x.node(bad, 0, 0));
      }
      for (BeanGroves x : Sample.states()) {
        Sample.refused(x, "node(0, " + bad + ", 0)", INDEX, () -> x.node(0, bad, 0));
      }
      for (BeanGroves x : Sample.states()) {
        Sample.refused(x, "node(0, 0, " + bad + ")", INDEX, () -> x.node(0, 0, bad));
      }
    }
  }

  // ---- promise 11: about

  static void promise11Tree() {
    BeanGroves x = planted(planted(Sample.highFork()));
    Due.is("about(0, 0)", x.about(0, 0), 5);
    Due.is("about(1, 0)", x.about(1, 0), 5);
    for (int bad : Sample.outside(0, 1)) {
      Due.thrown("about(" + bad + ", 0)", INDEX, () -> x.about(bad, 0));
    }
  }

  static void promise11NoTree() {
    BeanGroves x = Sample.full();
    for (int bad : Sample.outside(0, -1)) {
      Due.thrown("about(" + bad + ", 0)", INDEX, () -> x.about(bad, 0));
    }
  }

  static void promise11What() {
    BeanGroves x = planted(Sample.highFork());
    int[] due = {5, 3, 2, 6, 0, 1, -1};
    for (int what = 0; what <= 6; what++) {
      Due.is("about(0, " + what + ")", x.about(0, what), due[what]);
    }
    for (int bad : Sample.outside(0, 6)) {
      Due.thrown("about(0, " + bad + ")", INDEX, () -> x.about(0, bad));
    }
  }

  static void promise11OneLeaf() {
    BeanGroves x = Sample.along(new int[] {9}, new int[] {2});
    x.plant(5, 4);
    int[] due = {1, 1, 0, 1, 0, 5, 4};
    for (int what = 0; what <= 6; what++) {
      Due.is("about(0, " + what + ")", x.about(0, what), due[what]);
    }
  }

  static void promise11TheLargest() {
    BeanGroves x = Sample.largest();
    int[] due = {39, 20, 5, 20, 0, 1, -1};
    for (int what = 0; what <= 6; what++) {
      Due.is("about(0, " + what + ")", x.about(0, what), due[what]);
    }
  }

  static void promise11BehindPruning() {
    BeanGroves x = planted(Sample.highFork());
    Sample.addCheck(x, 0, 1);
    x.prune(0);
    int[] due = {3, 2, 1, 5, 1, 1, -1};
    for (int what = 0; what <= 6; what++) {
      Due.is("about(0, " + what + ")", x.about(0, what), due[what]);
    }
    x.check(6, false);
    x.prune(0);
    int[] then = {1, 1, 0, 3, 0, 1, -1};
    for (int what = 0; what <= 6; what++) {
      Due.is("about(0, " + what + ") then", x.about(0, what), then[what]);
    }
  }

  static void promise11NoBeansForGrowing() {
    BeanGroves x = planted(Sample.highFork());
    Sample.allChecks(x);
    Due.is("about(0, 3)", x.about(0, 3), 0);
    Due.is("about(0, 4)", x.about(0, 4), 6);
  }

  static void promise11NoChecks() {
    BeanGroves x = planted(Sample.highFork());
    Due.is("about(0, 3)", x.about(0, 3), 6);
    Due.is("about(0, 4)", x.about(0, 4), 0);
  }

  /** The bean 0 was left out and the bean 6 is new; it is asked about them too. */
  static void promise11AllForGrowingThatThereAreNow() {
    BeanGroves x = Sample.highFork();
    x.plant(5, 0);
    Sample.row(x, 0, 2, 0, 1, 0);
    Due.is("about(0, 3): all but the bean 5", x.about(0, 3), 5);
    x.bean(50, 0, 0, 0);
    Due.is("about(0, 3) with a new one", x.about(0, 3), 6);
    x.setSort(6, 1);
    Due.is("about(0, 3) when it is of another sort", x.about(0, 3), 5);
  }

  static void promise11ChecksAsTheyAreNow() {
    BeanGroves x = planted(Sample.highFork());
    int check = Sample.addCheck(x, 11, 1);
    Due.is("about(0, 4)", x.about(0, 4), 1);
    x.setSort(check, 0);
    Due.is("about(0, 4) when it is of another sort", x.about(0, 4), 0);
    x.check(check, false);
    x.check(5, true);
    Due.is("about(0, 4) of another check", x.about(0, 4), 1);
  }

  static void promise11PartsAndLeftAsTheyWereTold() {
    BeanGroves x = Sample.full();
    int[][] told = {{1, -1}, {2, 1}, {5, -1}, {5, 4}, {3, 0}};
    for (int[] one : told) {
      x.plant(one[0], one[1]);
    }
    for (int tree = 0; tree < 5; tree++) {
      x.prune(tree);
      Due.is("about(" + tree + ", 5)", x.about(tree, 5), told[tree][0]);
      Due.is("about(" + tree + ", 6)", x.about(tree, 6), told[tree][1]);
    }
    x.fell(0);
    Due.is("about(3, 5) behind fell", x.about(3, 5), 3);
    Due.is("about(3, 6) behind fell", x.about(3, 6), 0);
  }

  static void promise11RefusedChangesNothing() {
    for (int bad : Sample.outside(0, 6)) {
      for (BeanGroves x : Sample.states()) {
        Sample.refused(x, "about(" + bad + ", 0)", INDEX, () -> x.about(bad, 0));
      }
      for (BeanGroves x : Sample.states()) {
        Sample.refused(x, "about(0, " + bad + ")", INDEX, () -> x.about(0, bad));
      }
    }
  }

  // ---- promise 12: told

  static void promise12Bean() {
    BeanGroves x = Sample.highFork();
    Due.is("told(0, 0)", x.told(0, 0), 10);
    Due.is("told(5, 0)", x.told(5, 0), 30);
    for (int bad : Sample.outside(0, 5)) {
      for (int what = 0; what <= 4; what++) {
        int asked = what;
        Due.thrown("told(" + bad + ", " + what + ")", INDEX, () -> x.told(bad, asked));
      }
    }
  }

  static void promise12NoBean() {
    BeanGroves x = new BeanGroves();
    for (int bad : Sample.outside(0, -1)) {
      Due.thrown("told(" + bad + ", 0)", INDEX, () -> x.told(bad, 0));
    }
  }

  static void promise12TwentyBeans() {
    BeanGroves x = Sample.full();
    int[] due = {19, 38, 31, 1, 0};
    for (int what = 0; what <= 4; what++) {
      Due.is("told(19, " + what + ")", x.told(19, what), due[what]);
    }
    Due.thrown("told(20, 0)", INDEX, () -> x.told(20, 0));
  }

  static void promise12What() {
    BeanGroves x = new BeanGroves();
    x.bean(0, 50, 1, 2);
    int[] due = {0, 50, 1, 2, 0};
    for (int what = 0; what <= 4; what++) {
      Due.is("told(0, " + what + ")", x.told(0, what), due[what]);
    }
    for (int bad : Sample.outside(0, 4)) {
      Due.thrown("told(0, " + bad + ")", INDEX, () -> x.told(0, bad));
    }
  }

  static void promise12ACheckOrNot() {
    BeanGroves x = Sample.highFork();
    x.check(5, true);
    Due.is("told(5, 4)", x.told(5, 4), 1);
    Due.is("told(4, 4)", x.told(4, 4), 0);
    x.check(5, false);
    Due.is("told(5, 4) then", x.told(5, 4), 0);
  }

  static void promise12RefusedChangesNothing() {
    for (int bad : Sample.outside(0, 19)) {
      for (BeanGroves x : Sample.states()) {
        Sample.refused(x, "told(" + bad + ", 0)", INDEX, () -> x.told(bad, 0));
      }
    }
    for (int bad : Sample.outside(0, 4)) {
      for (BeanGroves x : Sample.states()) {
        Sample.refused(x, "told(0, " + bad + ")", INDEX, () -> x.told(0, bad));
      }
    }
  }

  // ---- promise 13: says

  static void promise13Tree() {
    BeanGroves x = planted(planted(Sample.highFork()));
    Due.is("says(0, 50, 0, 0)", x.says(0, 50, 0, 0), 2);
    Due.is("says(1, 50, 0, 0)", x.says(1, 50, 0, 0), 2);
    for (int bad : Sample.outside(0, 1)) {
      Due.thrown("says(" + bad + ", 1, 2, 3)", INDEX, () -> x.says(bad, 1, 2, 3));
    }
  }

  static void promise13NoTree() {
    BeanGroves x = Sample.full();
    for (int bad : Sample.outside(0, -1)) {
      Due.thrown("says(" + bad + ", 1, 2, 3)", INDEX, () -> x.says(bad, 1, 2, 3));
    }
  }

  static void promise13MeasureA() {
    BeanGroves x = planted(Sample.highFork());
    Due.is("says of a 0", x.says(0, 0, 7, 8), 1);
    Due.is("says of a 50", x.says(0, 50, 7, 8), 2);
    for (int bad : Sample.outside(0, 50)) {
      Due.thrown("says of a " + bad, ILLEGAL, () -> x.says(0, bad, 7, 8));
    }
  }

  static void promise13MeasureB() {
    BeanGroves x = Sample.byOtherMeasures();
    Due.is("says of b 0", x.says(0, 7, 0, 8), 2);
    Due.is("says of b 50", x.says(0, 7, 50, 8), 0);
    for (int bad : Sample.outside(0, 50)) {
      Due.thrown("says of b " + bad, ILLEGAL, () -> x.says(0, 7, bad, 8));
    }
  }

  static void promise13MeasureC() {
    BeanGroves x = Sample.byOtherMeasures();
    Due.is("says of c 0", x.says(0, 7, 0, 0), 2);
    Due.is("says of c 50", x.says(0, 7, 0, 50), 1);
    for (int bad : Sample.outside(0, 50)) {
      Due.thrown("says of c " + bad, ILLEGAL, () -> x.says(0, 7, 0, bad));
    }
  }

  static void promise13WrongTreeIsNamedBeforeWrongMeasure() {
    BeanGroves x = planted(Sample.highFork());
    for (int bad : Sample.outside(0, 0)) {
      Due.thrown("says of tree " + bad + " and a 51", INDEX, () -> x.says(bad, 51, 0, 0));
      Due.thrown("says of tree " + bad + " and b -1", INDEX, () -> x.says(bad, 0, -1, 0));
      Due.thrown("says of tree " + bad + " and c 51", INDEX, () -> x.says(bad, 0, 0, 51));
    }
  }

  static void promise13JustAtTheNumberIsLow() {
    BeanGroves x = planted(Sample.highFork());
    Due.is("says(0, 11, 0, 0)", x.says(0, 11, 0, 0), 1);
    Due.is("says(0, 12, 0, 0)", x.says(0, 12, 0, 0), 0);
    Due.is("says(0, 22, 0, 0)", x.says(0, 22, 0, 0), 0);
    Due.is("says(0, 23, 0, 0)", x.says(0, 23, 0, 0), 2);
  }

  static void promise13OneLeafSaysItsSort() {
    for (int sort = 0; sort <= 2; sort++) {
      BeanGroves x = planted(Sample.along(new int[] {25}, new int[] {sort}));
      Due.is("says(0, 0, 0, 0)", x.says(0, 0, 0, 0), sort);
      Due.is("says(0, 50, 50, 50)", x.says(0, 50, 50, 50), sort);
    }
  }

  /** It says of each of its 20 beans, down to five forks below the root, which sort it is of. */
  static void promise13TheLargest() {
    BeanGroves x = Sample.largest();
    for (int[] b : Sample.OF_LARGEST) {
      Due.is("says of " + b[0] + " " + b[1] + " " + b[2], x.says(0, b[0], b[1], b[2]), b[3]);
    }
  }

  static void promise13BehindPruning() {
    BeanGroves x = planted(Sample.highFork());
    Sample.addCheck(x, 0, 1);
    x.prune(0);
    Due.is("says(0, 11, 0, 0)", x.says(0, 11, 0, 0), 1);
    Due.is("says(0, 50, 0, 0)", x.says(0, 50, 0, 0), 0);
  }

  static void promise13RefusedChangesNothing() {
    for (int bad : Sample.outside(0, 50)) {
      for (BeanGroves x : Sample.states()) {
        Sample.refused(x, "says of tree " + bad, INDEX, () -> x.says(bad, 1, 2, 3));
      }
      for (BeanGroves x : new BeanGroves[] {Sample.inUse(), Sample.noRoom()}) {
        Sample.refused(x, "says of a " + bad, ILLEGAL, () -> x.says(0, bad, 2, 3));
      }
      for (BeanGroves x : new BeanGroves[] {Sample.inUse(), Sample.noRoom()}) {
        Sample.refused(x, "says of b " + bad, ILLEGAL, () -> x.says(1, 1, bad, 3));
      }
      for (BeanGroves x : new BeanGroves[] {Sample.inUse(), Sample.noRoom()}) {
        Sample.refused(x, "says of c " + bad, ILLEGAL, () -> x.says(2, 1, 2, bad));
      }
    }
  }

  // ---- promise 14: vote

  static void promise14WithoutTrees() {
    BeanGroves x = Sample.full();
    Due.is("vote(0, 0, 0)", x.vote(0, 0, 0), -1);
    Due.is("vote(50, 50, 50)", x.vote(50, 50, 50), -1);
    x.plant(1, -1);
    x.fell(0);
    Due.is("vote(0, 0, 0) behind fell", x.vote(0, 0, 0), -1);
  }

  static void promise14MeasureA() {
    BeanGroves x = planted(Sample.highFork());
    Due.is("vote of a 0", x.vote(0, 7, 8), 1);
    Due.is("vote of a 50", x.vote(50, 7, 8), 2);
    for (int bad : Sample.outside(0, 50)) {
      Due.thrown("vote of a " + bad, ILLEGAL, () -> x.vote(bad, 7, 8));
    }
  }

  static void promise14MeasureB() {
    BeanGroves x = Sample.byOtherMeasures();
    Due.is("vote of b 0", x.vote(7, 0, 8), 2);
    Due.is("vote of b 50", x.vote(7, 50, 8), 0);
    for (int bad : Sample.outside(0, 50)) {
      Due.thrown("vote of b " + bad, ILLEGAL, () -> x.vote(7, bad, 8));
    }
  }

  static void promise14MeasureC() {
    BeanGroves x = Sample.byOtherMeasures();
    Due.is("vote of c 0", x.vote(7, 0, 0), 2);
    Due.is("vote of c 50", x.vote(7, 0, 50), 1);
    for (int bad : Sample.outside(0, 50)) {
      Due.thrown("vote of c " + bad, ILLEGAL, () -> x.vote(7, 0, bad));
    }
  }

  static void promise14WrongMeasuresWithoutTrees() {
    BeanGroves x = new BeanGroves();
    for (int bad : Sample.outside(0, 50)) {
      Due.thrown("vote of a " + bad, ILLEGAL, () -> x.vote(bad, 0, 0));
      Due.thrown("vote of b " + bad, ILLEGAL, () -> x.vote(0, bad, 0));
      Due.thrown("vote of c " + bad, ILLEGAL, () -> x.vote(0, 0, bad));
    }
  }

  static void promise14OneTree() {
    for (int sort = 0; sort <= 2; sort++) {
      Due.is("vote of one of sort " + sort, Sample.grove(sort).vote(9, 9, 9), sort);
    }
  }

  static void promise14TheSmallestOfSeveral() {
    Due.is("vote of 2 and 1", Sample.grove(2, 1).vote(0, 0, 0), 1);
    Due.is("vote of 2 and 0", Sample.grove(2, 0).vote(0, 0, 0), 0);
    Due.is("vote of 1 and 0", Sample.grove(1, 0).vote(0, 0, 0), 0);
    Due.is("vote of 2, 1 and 0", Sample.grove(2, 1, 0).vote(0, 0, 0), 0);
    Due.is("vote of 2, 2, 1 and 1", Sample.grove(2, 2, 1, 1).vote(0, 0, 0), 1);
    Due.is("vote of 2, 1, 0, 2 and 1", Sample.grove(2, 1, 0, 2, 1).vote(0, 0, 0), 1);
    Due.is("vote of 0, 2, 1, 2 and 0", Sample.grove(0, 2, 1, 2, 0).vote(0, 0, 0), 0);
  }

  static void promise14OneMoreThanTheSmaller() {
    Due.is("vote of 0, 2 and 2", Sample.grove(0, 2, 2).vote(0, 0, 0), 2);
    Due.is("vote of 0, 1 and 1", Sample.grove(0, 1, 1).vote(0, 0, 0), 1);
    Due.is("vote of 0, 0, 2, 2 and 2", Sample.grove(0, 0, 2, 2, 2).vote(0, 0, 0), 2);
    Due.is("vote of 1, 0, 2, 2 and 2", Sample.grove(1, 0, 2, 2, 2).vote(0, 0, 0), 2);
  }

  static void promise14FiveAlike() {
    Due.is("vote of five of 2", Sample.grove(2, 2, 2, 2, 2).vote(50, 0, 50), 2);
  }

  static void promise14BehindFell() {
    BeanGroves x = Sample.grove(2, 2, 0, 0, 1);
    Due.is("vote of 2, 2, 0, 0 and 1", x.vote(0, 0, 0), 0);
    x.fell(2);
    Due.is("vote of 2, 2, 0 and 1", x.vote(0, 0, 0), 2);
    x.fell(0);
    Due.is("vote of 2, 0 and 1", x.vote(0, 0, 0), 0);
    x.fell(1);
    Due.is("vote of 2 and 1", x.vote(0, 0, 0), 1);
  }

  static void promise14RefusedChangesNothing() {
    for (int bad : Sample.outside(0, 50)) {
      for (BeanGroves x : Sample.states()) {
        Sample.refused(x, "vote of a " + bad, ILLEGAL, () -> x.vote(bad, 2, 3));
      }
      for (BeanGroves x : Sample.states()) {
        Sample.refused(x, "vote of b " + bad, ILLEGAL, () -> x.vote(1, bad, 3));
      }
      for (BeanGroves x : Sample.states()) {
        Sample.refused(x, "vote of c " + bad, ILLEGAL, () -> x.vote(1, 2, bad));
      }
    }
  }

  // ---- promise 15: count

  static void promise15What() {
    BeanGroves x = planted(Sample.highFork());
    int[] due = {6, 0, 1, 6, 0, 3, 1};
    for (int what = 0; what <= 6; what++) {
      Due.is("count(" + what + ")", x.count(what), due[what]);
    }
    for (int bad : Sample.outside(0, 6)) {
      Due.thrown("count(" + bad + ")", INDEX, () -> x.count(bad));
    }
  }

  static void promise15OfANewOne() {
    BeanGroves x = new BeanGroves();
    int[] due = {0, 0, 0, 0, 0, 3, 1};
    for (int what = 0; what <= 6; what++) {
      Due.is("count(" + what + ")", x.count(what), due[what]);
    }
    for (int bad : Sample.outside(0, 6)) {
      Due.thrown("count(" + bad + ")", INDEX, () -> x.count(bad));
    }
  }

  /** A grove without trees does not vote, so not for the sort of any bean either. */
  static void promise15WithoutTrees() {
    BeanGroves x = Sample.full();
    Due.is("count(3)", x.count(3), 0);
    x.check(0, true);
    Due.is("count(3) with a check", x.count(3), 0);
    Due.is("count(4) with a check", x.count(4), 0);
    Sample.allChecks(x);
    Due.is("count(4) with checks alone", x.count(4), 0);
  }

  static void promise15AllThatThereIsRoomFor() {
    BeanGroves x = Sample.largest();
    for (int tree = 1; tree < 5; tree++) {
      x.plant(1, -1);
    }
    x.setLeast(6);
    int[] due = {20, 0, 5, 20, 0, 5, 6};
    for (int what = 0; what <= 6; what++) {
      Due.is("count(" + what + ")", x.count(what), due[what]);
    }
    Sample.allChecks(x);
    int[] then = {20, 20, 5, 0, 20, 5, 6};
    for (int what = 0; what <= 6; what++) {
      Due.is("count(" + what + ") with checks alone", x.count(what), then[what]);
    }
  }

  /** Two trees say 2 and 1, so the grove votes for 1, which only the bean 1 is. */
  static void promise15ByTheSmallestOfSeveral() {
    BeanGroves x = Sample.grove(2, 1);
    Due.is("count(3)", x.count(3), 1);
    Due.is("count(4)", x.count(4), 0);
    x.check(1, true);
    x.check(2, false);
    Due.is("count(3) of the bean 2", x.count(3), 0);
    Due.is("count(4) of the beans 0 and 1", x.count(4), 1);
  }

  /** The grove votes by all three measures of a bean, of checks as of the others. */
  static void promise15ByEachMeasure() {
    BeanGroves x = Sample.byOtherMeasures();
    Due.is("count(3)", x.count(3), 4);
    Sample.allChecks(x);
    Due.is("count(4)", x.count(4), 4);
    Due.is("count(3) with checks alone", x.count(3), 0);
  }

  static void promise15RefusedChangesNothing() {
    for (int bad : Sample.outside(0, 6)) {
      for (BeanGroves x : Sample.states()) {
        Sample.refused(x, "count(" + bad + ")", INDEX, () -> x.count(bad));
      }
    }
  }
}
