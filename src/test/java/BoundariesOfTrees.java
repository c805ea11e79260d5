import java.util.List;

/** The boundary cases of the promises 7 to 9, a test for each sentence that names one. */
final class BoundariesOfTrees {
  private static final Class<?> ILLEGAL = Sample.ILLEGAL;
  private static final Class<?> INDEX = Sample.INDEX;
  private static final Class<?> STATE = Sample.STATE;

  private BoundariesOfTrees() {}

  // ---- promise 7: plant, what it takes

  static void promise07Parts() {
    BeanGroves x = Sample.full();
    for (int bad : Sample.outside(1, 5)) {
      Due.thrown("plant(" + bad + ", -1)", ILLEGAL, () -> x.plant(bad, -1));
      Due.thrown("plant(" + bad + ", 0)", ILLEGAL, () -> x.plant(bad, 0));
    }
    for (int parts = 1; parts <= 5; parts++) {
      Due.is("plant(" + parts + ", -1)", x.plant(parts, -1), parts - 1);
      Due.is("its parts", x.about(parts - 1, 5), parts);
    }
  }

  static void promise07Left() {
    for (int parts = 1; parts <= 5; parts++) {
      BeanGroves x = Sample.full();
      int by = parts;
      for (int bad : Sample.outside(-1, parts - 1)) {
        Due.thrown("plant(" + parts + ", " + bad + ")", ILLEGAL, () -> x.plant(by, bad));
      }
      Due.is("plant(" + parts + ", -1)", x.plant(parts, -1), 0);
      Due.is("its left", x.about(0, 6), -1);
      if (parts > 1) {
        Due.is("plant(" + parts + ", parts - 1)", x.plant(parts, parts - 1), 1);
        Due.is("its left then", x.about(1, 6), parts - 1);
        Due.is("plant(" + parts + ", 0)", x.plant(parts, 0), 2);
        Due.is("its left at last", x.about(2, 6), 0);
      }
    }
  }

  static void promise07LeftMinus1LeavesOutNone() {
    for (int parts = 1; parts <= 5; parts++) {
      BeanGroves x = Sample.full();
      x.plant(parts, -1);
      Due.is("grown with " + parts + ", -1", x.node(0, 0, 3), 20);
    }
  }

  /** Those that are left out are the only ones of sort 1, so what is left makes one leaf. */
  static void promise07LeavesOutByRemainder() {
    for (int parts = 2; parts <= 5; parts++) {
      for (int left = 0; left < parts; left++) {
        BeanGroves x = new BeanGroves();
        int out = 0;
        for (int bean = 0; bean < 20; bean++) {
          boolean isOut = bean % parts == left;
          x.bean(bean, 0, 0, isOut ? 1 : 0);
          out += isOut ? 1 : 0;
        }
        x.plant(parts, left);
        Sample.oneLeaf(x, 0, 0, 20 - out);
      }
    }
  }

  /** Checks keep their numbers: of the beans 1, 2 and 3 it is the bean 2 that is left out. */
  static void promise07LeavesOutByNumberNotByPlace() {
    BeanGroves x = Sample.inTurn(2, 0, 1, 0);
    x.check(0, true);
    x.plant(2, 0);
    Sample.oneLeaf(x, 0, 0, 2);
  }

  static void promise07NoBeans() {
    BeanGroves x = new BeanGroves();
    Due.thrown("plant(1, -1)", STATE, () -> x.plant(1, -1));
    Due.thrown("plant(1, 0)", STATE, () -> x.plant(1, 0));
    Due.thrown("plant(5, 4)", STATE, () -> x.plant(5, 4));
    Due.is("count(2)", x.count(2), 0);
  }

  static void promise07ChecksAlone() {
    BeanGroves x = Sample.full();
    Sample.allChecks(x);
    Due.thrown("plant(1, -1)", STATE, () -> x.plant(1, -1));
    Due.thrown("plant(5, 0)", STATE, () -> x.plant(5, 0));
  }

  static void promise07PartsOf1AndLeftOf0() {
    BeanGroves x = Sample.full();
    Due.thrown("plant(1, 0)", STATE, () -> x.plant(1, 0));
    Due.is("count(2)", x.count(2), 0);
  }

  static void promise07NoneButThoseLeftOut() {
    BeanGroves x = Sample.inTurn(1, 0, 0, 1);
    x.check(1, true);
    x.check(2, true);
    Due.thrown("plant(3, 0) of the beans 0 and 3", STATE, () -> x.plant(3, 0));
    Due.is("plant(3, 1) of the beans 0 and 3", x.plant(3, 1), 0);
    Sample.oneLeaf(x, 0, 1, 2);
  }

  static void promise07FiveTreesAndNoMore() {
    BeanGroves x = Sample.full();
    for (int tree = 0; tree < 5; tree++) {
      Due.is("plant the tree " + tree, x.plant(1, -1), tree);
    }
    Due.thrown("plant the tree 5", STATE, () -> x.plant(1, -1));
    Due.thrown("plant the tree 5 again", STATE, () -> x.plant(5, 4));
    Due.is("count(2)", x.count(2), 5);
  }

  /** The new one is a tree of its own: the last one that moved up stays as it is. */
  static void promise07AnotherBehindFelling() {
    BeanGroves x = Sample.full();
    for (int tree = 0; tree < 5; tree++) {
      x.plant(5, tree);
    }
    x.fell(0);
    Due.is("plant behind fell", x.plant(4, 2), 4);
    Due.is("its left", x.about(4, 6), 2);
    for (int tree = 0; tree < 4; tree++) {
      Due.is("about(" + tree + ", 6)", x.about(tree, 6), tree + 1);
    }
    Due.thrown("plant the tree 5", STATE, () -> x.plant(5, 2));
  }

  static void promise07WrongPartsAreNamedBeforeTooMany() {
    BeanGroves x = Sample.noRoom();
    for (int bad : Sample.outside(1, 5)) {
      Due.thrown("plant(" + bad + ", -1)", ILLEGAL, () -> x.plant(bad, -1));
    }
  }

  static void promise07WrongLeftIsNamedBeforeTooMany() {
    BeanGroves x = Sample.noRoom();
    for (int bad : Sample.outside(-1, 2)) {
      Due.thrown("plant(3, " + bad + ")", ILLEGAL, () -> x.plant(3, bad));
    }
  }

  static void promise07WrongOnesAreNamedBeforeNoBeans() {
    BeanGroves x = new BeanGroves();
    for (int bad : Sample.outside(1, 5)) {
      Due.thrown("plant(" + bad + ", -1)", ILLEGAL, () -> x.plant(bad, -1));
    }
    for (int bad : Sample.outside(-1, 0)) {
      Due.thrown("plant(1, " + bad + ")", ILLEGAL, () -> x.plant(1, bad));
    }
  }

  static void promise07TooManyAndNoBeans() {
    BeanGroves x = Sample.noRoom();
    Sample.allChecks(x);
    Due.thrown("plant(1, -1)", STATE, () -> x.plant(1, -1));
  }

  static void promise07RefusedChangesNothing() {
    for (int bad : Sample.outside(1, 5)) {
      for (BeanGroves x : Sample.states()) {
        Sample.refused(x, "plant(" + bad + ", -1)", ILLEGAL, () -> x.plant(bad, -1));
      }
    }
    for (int bad : Sample.outside(-1, 2)) {
      for (BeanGroves x : Sample.states()) {
        Sample.refused(x, "plant(3, " + bad + ")", ILLEGAL, () -> x.plant(3, bad));
      }
    }
    for (BeanGroves x : Sample.states()) {
      Sample.refused(x, "plant(1, 0)", STATE, () -> x.plant(1, 0));
    }
    BeanGroves none = new BeanGroves();
    Sample.refused(none, "plant without beans", STATE, () -> none.plant(2, -1));
    BeanGroves checks = Sample.inUse();
    Sample.allChecks(checks);
    Sample.refused(checks, "plant of checks alone", STATE, () -> checks.plant(2, -1));
    BeanGroves full = Sample.noRoom();
    Sample.refused(full, "plant the tree 5", STATE, () -> full.plant(2, 1));
  }

  // ---- promise 7: plant, how it grows

  static void promise07OneBean() {
    for (int sort = 0; sort <= 2; sort++) {
      BeanGroves x = Sample.along(new int[] {50}, new int[] {sort});
      x.plant(1, -1);
      Sample.oneLeaf(x, 0, sort, 1);
    }
  }

  static void promise07AllOfOneSort() {
    BeanGroves x = Sample.inTurn(2, 2, 2, 2, 2, 2, 2, 2, 2, 2, 2, 2, 2, 2, 2, 2, 2, 2, 2, 2);
    x.setDepth(5);
    x.plant(1, -1);
    Sample.oneLeaf(x, 0, 2, 20);
  }

  /** With alike beans every cut has all of them on one side. */
  static void promise07AllOnOneSide() {
    for (int at : new int[] {0, 25, 49, 50}) {
      BeanGroves x = new BeanGroves();
      x.bean(at, at, at, 2);
      x.bean(at, at, at, 1);
      x.bean(at, at, at, 2);
      x.plant(1, -1);
      Sample.oneLeaf(x, 0, 2, 3);
    }
  }

  static void promise07SortOfMostTheSmallestOfSeveral() {
    int[][] sorts = {
      {2, 1}, {2, 0}, {1, 0}, {2, 1, 0}, {2, 2, 1}, {2, 2, 1, 1, 0}, {1, 0, 1, 2, 2},
    };
    int[] due = {1, 0, 0, 0, 2, 1, 1};
    for (int turn = 0; turn < sorts.length; turn++) {
      BeanGroves x = Sample.along(new int[sorts[turn].length], sorts[turn]);
      x.plant(1, -1);
      Sample.oneLeaf(x, 0, due[turn], sorts[turn].length);
    }
  }

  /** Three, three and two of the sorts: also a fork has the smallest one of several. */
  static void promise07SortOfAFork() {
    BeanGroves x = Sample.inTurn(2, 2, 2, 1, 1, 1, 0, 0);
    x.plant(1, -1);
    Due.is("node(0, 0, 2)", x.node(0, 0, 2), 1);
    Due.is("its low part", x.node(0, 0, 5), 1);
  }

  static void promise07DownToItsDepth() {
    for (int most = 1; most <= 5; most++) {
      BeanGroves x = Sample.ladder();
      x.setDepth(most);
      x.plant(1, -1);
      int last = 2 * most;
      Due.is("nodes down to " + most, x.about(0, 0), last + 1);
      Due.is("depth of the last one", x.node(0, last, 4), most);
      Due.is("beans of the last one", x.node(0, last, 3), 7 - most);
      Due.is("its cut", x.node(0, last, 0), -1);
    }
  }

  static void promise07LeafOfOneSortAboveItsDepth() {
    BeanGroves x = Sample.highFork();
    x.setDepth(5);
    x.plant(1, -1);
    Due.is("its cut", x.node(0, 1, 1), -1);
    Due.is("its depth", x.node(0, 1, 4), 1);
    Due.is("its beans", x.node(0, 1, 3), 2);
  }

  static void promise07LeafWithoutACutAboveItsDepth() {
    BeanGroves x = Sample.along(new int[] {1, 2, 2}, new int[] {2, 1, 0});
    x.setDepth(5);
    x.plant(1, -1);
    Sample.row(x, 0, 1, 1, -1, -1);
    Sample.row(x, 0, 2, 0, 2, 0);
    Sample.row(x, 0, 3, 3, 1, 2);
  }

  static void promise07JustTheLeastOnEitherSide() {
    BeanGroves x = Sample.inTurn(0, 0, 1, 1);
    x.setLeast(2);
    x.plant(1, -1);
    Sample.row(x, 0, 3, 4, 2, 2);
    x.setLeast(3);
    x.plant(1, -1);
    Sample.oneLeaf(x, 1, 0, 4);
  }

  static void promise07TooFewLow() {
    BeanGroves x = Sample.inTurn(1, 0, 0);
    x.setLeast(2);
    x.plant(1, -1);
    Sample.oneLeaf(x, 0, 0, 3);
  }

  static void promise07TooFewHigh() {
    BeanGroves x = Sample.inTurn(0, 0, 1);
    x.setLeast(2);
    x.plant(1, -1);
    Sample.oneLeaf(x, 0, 0, 3);
  }

  /** The cut at 22 would leave one high, so that at 21 is taken, which gains less. */
  static void promise07TheLeastAtLowerNodes() {
    BeanGroves x = Sample.highFork();
    x.setLeast(2);
    x.plant(1, -1);
    Sample.row(x, 0, 1, 11, -1, 21, -1, -1);
    Sample.row(x, 0, 2, 0, 1, 0, 0, 0);
    Sample.row(x, 0, 3, 6, 2, 4, 2, 2);
  }

  static void promise07JustAtTheNumberIsLow() {
    BeanGroves x = Sample.along(new int[] {10, 11, 10, 9}, new int[] {0, 1, 0, 0});
    x.plant(1, -1);
    Sample.row(x, 0, 1, 10, -1, -1);
    Sample.row(x, 0, 3, 4, 3, 1);
  }

  static void promise07NumberOf0() {
    BeanGroves x = Sample.along(new int[] {50, 0}, new int[] {0, 1});
    x.plant(1, -1);
    Sample.row(x, 0, 1, 0, -1, -1);
    Sample.row(x, 0, 2, 0, 1, 0);
  }

  static void promise07NumberOf49() {
    BeanGroves x = Sample.along(new int[] {50, 49}, new int[] {0, 1});
    x.plant(1, -1);
    Sample.row(x, 0, 1, 49, -1, -1);
    Sample.row(x, 0, 2, 0, 1, 0);
  }

  static void promise07NumberOf50IsNeverTried() {
    BeanGroves x = new BeanGroves();
    x.bean(50, 50, 1, 1);
    x.bean(50, 50, 0, 2);
    x.plant(1, -1);
    Sample.row(x, 0, 0, 2, -1, -1);
    Sample.row(x, 0, 1, 0, -1, -1);
    Sample.row(x, 0, 2, 1, 2, 1);
  }

  /** The low part has beans at 10 and 30; those at 20 are not among them. */
  static void promise07NumberOfOneOfTheseBeans() {
    BeanGroves x = new BeanGroves();
    x.bean(10, 0, 0, 0);
    x.bean(30, 0, 0, 1);
    x.bean(20, 50, 0, 2);
    x.bean(20, 50, 0, 2);
    x.plant(1, -1);
    Sample.row(x, 0, 0, 1, 0, -1, -1, -1);
    Sample.row(x, 0, 1, 0, 10, -1, -1, -1);
    Sample.row(x, 0, 2, 2, 0, 0, 1, 2);
    Sample.row(x, 0, 3, 4, 2, 1, 1, 2);
  }

  static void promise07NoneGainsMoreThan0() {
    BeanGroves x = Sample.cross();
    x.plant(1, -1);
    Sample.oneLeaf(x, 0, 0, 4);
  }

  /** 11/5 + 44/10 - 99/15 is 0, though doubles would make a little more of it. */
  static void promise07AGainOf0ToldExactly() {
    BeanGroves x = Sample.evenParts();
    x.plant(1, -1);
    Sample.oneLeaf(x, 0, 2, 15);
  }

  static void promise07TheSameGainBySmallestMeasure() {
    BeanGroves x = new BeanGroves();
    x.bean(30, 2, 1, 2);
    x.bean(40, 3, 2, 1);
    x.plant(1, -1);
    Sample.row(x, 0, 0, 0, -1, -1);
    Sample.row(x, 0, 1, 30, -1, -1);
    BeanGroves alikeIn0 = new BeanGroves();
    alikeIn0.bean(9, 30, 1, 2);
    alikeIn0.bean(9, 40, 2, 1);
    alikeIn0.plant(1, -1);
    Sample.row(alikeIn0, 0, 0, 1, -1, -1);
    Sample.row(alikeIn0, 0, 1, 30, -1, -1);
  }

  static void promise07TheSameGainBySmallestNumber() {
    BeanGroves x = Sample.ladder();
    x.setLeast(3);
    x.plant(1, -1);
    Sample.row(x, 0, 1, 3, -1, -1);
  }

  /** The cuts at 2 and at 6 both gain 1/3, though doubles would make a little more of the last. */
  static void promise07TheSameGainToldExactly() {
    BeanGroves x = Sample.inTurn(0, 1, 0, 0, 0, 1, 0, 0);
    x.setDepth(1);
    x.plant(1, -1);
    Sample.row(x, 0, 1, 2, -1, -1);
    Sample.row(x, 0, 3, 8, 2, 6);
  }

  /** How pure the parts are: 61/13 + 27/7 behind 13 beans, 5/3 + 117/17 behind 3, which is less. */
  static void promise07MoreByVeryLittle() {
    BeanGroves x = Sample.inTurn(1, 2, 1, 2, 0, 2, 1, 0, 0, 0, 2, 0, 0, 2, 2, 0, 2, 2, 1, 2);
    x.setDepth(1);
    x.plant(1, -1);
    Sample.row(x, 0, 1, 13, -1, -1);
    Sample.row(x, 0, 3, 20, 13, 7);
  }

  /** A node, then all of its low part, then all of its high one. */
  static void promise07RowWithForksOnBothSides() {
    BeanGroves x = Sample.inTurn(0, 0, 1, 1, 2, 2, 2, 0);
    x.plant(1, -1);
    Sample.row(x, 0, 1, 4, 2, -1, -1, 7, -1, -1);
    Sample.row(x, 0, 2, 0, 0, 0, 1, 2, 2, 0);
    Sample.row(x, 0, 3, 8, 4, 2, 2, 4, 3, 1);
    Sample.row(x, 0, 4, 0, 1, 2, 2, 1, 2, 2);
    Sample.row(x, 0, 5, 1, 2, -1, -1, 5, -1, -1);
    Sample.row(x, 0, 6, 4, 3, -1, -1, 6, -1, -1);
  }

  /** 20 leaves of a bean each; every fork has its parts at the places where the row has them. */
  static void promise07AsLargeAs20BeansMakeIt() {
    BeanGroves x = Sample.largest();
    Due.is("nodes", x.about(0, 0), 39);
    Due.is("leaves", x.about(0, 1), 20);
    Due.is("depth", x.about(0, 2), 5);
    Due.is("right about", x.about(0, 3), 20);
    for (int place = 0; place < 39; place++) {
      int low = x.node(0, place, 5);
      int high = x.node(0, place, 6);
      String of = " of the place " + place;
      if (x.node(0, place, 0) < 0) {
        Due.is("beans" + of, x.node(0, place, 3), 1);
      } else {
        Due.is("low part" + of, low, place + 1);
        Due.isTrue("high part" + of, high > low && high < 39);
        Due.is("beans" + of, x.node(0, low, 3) + x.node(0, high, 3), x.node(0, place, 3));
        Due.is("depth of the low part" + of, x.node(0, low, 4), x.node(0, place, 4) + 1);
        Due.is("depth of the high part" + of, x.node(0, high, 4), x.node(0, place, 4) + 1);
      }
    }
  }

  static void promise07FiveOfTheLargest() {
    BeanGroves x = Sample.largest();
    for (int tree = 1; tree < 5; tree++) {
      x.plant(1, -1);
    }
    for (int tree = 0; tree < 5; tree++) {
      Due.is("nodes of the tree " + tree, x.about(tree, 0), 39);
    }
    Due.isTrue("mean()", x.mean() == 39.0);
  }

  static void promise07TreesStayBehindBean() {
    Sample.treesStay(Sample.inUse(), "bean", x -> {
      for (int bean = 12; bean < 20; bean++) {
        x.bean(bean, 50 - bean, bean, bean % 3);
      }
    });
  }

  static void promise07TreesStayBehindPlant() {
    Sample.treesStay(Sample.inUse(), "plant", x -> {
      x.setDepth(1);
      x.plant(1, -1);
      x.plant(5, 0);
    });
  }

  static void promise07TreesStayBehindWhatWouldBe() {
    Sample.treesStay(Sample.inUse(), "would and advise", x -> {
      x.would(5, 1, 0);
      x.would(1, 6, 2);
      x.advise();
    });
  }

  // ---- promise 8: fell

  static void promise08Tree() {
    BeanGroves x = Sample.inUse();
    for (int bad : Sample.outside(0, 2)) {
      Due.thrown("fell(" + bad + ")", INDEX, () -> x.fell(bad));
    }
    Due.is("fell of the last", x.fell(2), 2);
    Due.is("fell of the first", x.fell(0), 1);
    Due.thrown("fell(1)", INDEX, () -> x.fell(1));
  }

  static void promise08NoTree() {
    BeanGroves x = Sample.full();
    for (int bad : Sample.outside(0, -1)) {
      Due.thrown("fell(" + bad + ")", INDEX, () -> x.fell(bad));
    }
  }

  static void promise08FiveTrees() {
    BeanGroves x = Sample.noRoom();
    Due.thrown("fell(5)", INDEX, () -> x.fell(5));
    Due.is("fell(4)", x.fell(4), 4);
    Due.thrown("fell(4) again", INDEX, () -> x.fell(4));
  }

  static void promise08TheLastThatStands() {
    BeanGroves x = Sample.highFork();
    x.plant(1, -1);
    Due.is("fell(0)", x.fell(0), 0);
    Due.is("count(2)", x.count(2), 0);
    Due.thrown("fell(0) again", INDEX, () -> x.fell(0));
    Due.is("vote(1, 1, 1)", x.vote(1, 1, 1), -1);
  }

  static void promise08ThoseBehindMoveUp() {
    for (int felled = 0; felled < 5; felled++) {
      BeanGroves x = Sample.full();
      for (int tree = 0; tree < 5; tree++) {
        x.plant(5, tree);
      }
      Due.is("fell(" + felled + ")", x.fell(felled), 4);
      for (int tree = 0; tree < 4; tree++) {
        String call = "about(" + tree + ", 6) behind fell(" + felled + ")";
        Due.is(call, x.about(tree, 6), tree < felled ? tree : tree + 1);
      }
    }
  }

  static void promise08NoneBehindTheLast() {
    BeanGroves x = Sample.inUse();
    List<Integer> first = Sample.nodes(x, 0);
    List<Integer> next = Sample.nodes(x, 1);
    x.fell(2);
    Due.isTrue("the first one stays", first.equals(Sample.nodes(x, 0)));
    Due.isTrue("the next one stays", next.equals(Sample.nodes(x, 1)));
  }

  static void promise08RefusedChangesNothing() {
    for (int bad : Sample.outside(0, 4)) {
      for (BeanGroves x : Sample.states()) {
        Sample.refused(x, "fell(" + bad + ")", INDEX, () -> x.fell(bad));
      }
    }
    BeanGroves none = Sample.highFork();
    Sample.refused(none, "fell(0)", INDEX, () -> none.fell(0));
  }

  // ---- promise 9: prune

  static void promise09Tree() {
    BeanGroves x = Sample.highFork();
    for (int tree = 0; tree < 3; tree++) {
      x.plant(1, -1);
    }
    for (int bad : Sample.outside(0, 2)) {
      Due.thrown("prune(" + bad + ")", INDEX, () -> x.prune(bad));
    }
    Due.is("prune of the first", x.prune(0), 2);
    Due.is("prune of the last", x.prune(2), 2);
    Due.is("nodes of the one between", x.about(1, 0), 5);
  }

  static void promise09NoTree() {
    BeanGroves x = Sample.full();
    for (int bad : Sample.outside(0, -1)) {
      Due.thrown("prune(" + bad + ")", INDEX, () -> x.prune(bad));
    }
  }

  static void promise09RefusedChangesNothing() {
    for (int bad : Sample.outside(0, 4)) {
      for (BeanGroves x : Sample.states()) {
        Sample.refused(x, "prune(" + bad + ")", INDEX, () -> x.prune(bad));
      }
    }
  }

  static void promise09ALeafStays() {
    BeanGroves x = Sample.along(new int[] {7}, new int[] {1});
    x.plant(1, -1);
    Due.is("prune without checks", x.prune(0), 0);
    Sample.oneLeaf(x, 0, 1, 1);
    Sample.addCheck(x, 7, 2);
    Sample.addCheck(x, 8, 2);
    Due.is("prune by checks of another sort", x.prune(0), 0);
    Sample.oneLeaf(x, 0, 1, 1);
  }

  /** No bean comes to any fork, so each becomes a leaf in its turn. */
  static void promise09NoChecks() {
    BeanGroves x = Sample.ladder();
    x.setDepth(5);
    x.plant(1, -1);
    Due.is("prune(0)", x.prune(0), 5);
    Sample.oneLeaf(x, 0, 0, 7);
  }

  static void promise09NoChecksForTheLargest() {
    BeanGroves x = Sample.largest();
    int sort = x.node(0, 0, 2);
    Due.is("prune(0)", x.prune(0), 19);
    Sample.oneLeaf(x, 0, sort, 20);
    Due.is("prune(0) again", x.prune(0), 0);
  }

  /** They were all right, but they are no checks, so they do not count. */
  static void promise09BeansForGrowingDoNotCount() {
    BeanGroves x = Sample.highFork();
    x.plant(1, -1);
    Due.is("right about", x.about(0, 3), 6);
    Due.is("prune(0)", x.prune(0), 2);
  }

  /** Every fork is right about all that come to it, and they are of several sorts. */
  static void promise09AllRightForTheLargest() {
    BeanGroves x = Sample.largest();
    Sample.allChecks(x);
    Due.is("prune(0)", x.prune(0), 0);
    Due.is("nodes", x.about(0, 0), 39);
  }

  static void promise09NoBeanComesToTheLowFork() {
    BeanGroves x = Sample.lowFork();
    x.plant(1, -1);
    Sample.addCheck(x, 21, 1);
    Due.is("prune(0)", x.prune(0), 1);
    Sample.row(x, 0, 1, 20, -1, -1);
    Sample.row(x, 0, 2, 0, 0, 1);
  }

  static void promise09NoBeanComesToTheHighFork() {
    BeanGroves x = Sample.highFork();
    x.plant(1, -1);
    Sample.addCheck(x, 0, 1);
    Due.is("prune(0)", x.prune(0), 1);
    Sample.row(x, 0, 1, 11, -1, -1);
    Sample.row(x, 0, 2, 0, 1, 0);
  }

  static void promise09JustAtTheNumberIsLow() {
    BeanGroves x = Sample.highFork();
    x.plant(1, -1);
    x.plant(1, -1);
    int check = Sample.addCheck(x, 11, 1);
    Due.is("prune(0) by one at the number", x.prune(0), 1);
    Sample.row(x, 0, 2, 0, 1, 0);
    x.check(check, false);
    Sample.addCheck(x, 12, 1);
    Due.is("prune(1) by one behind the number", x.prune(1), 2);
    Sample.oneLeaf(x, 1, 0, 6);
  }

  /** Right about 1 of 2 by its parts, and 1 of 2 is of its own sort: that is no more. */
  static void promise09AsManyRight() {
    BeanGroves x = Sample.along(new int[] {1, 2, 3}, new int[] {0, 1, 0});
    x.setDepth(1);
    x.plant(1, -1);
    Sample.row(x, 0, 2, 0, 0, 0);
    Sample.addCheck(x, 1, 0);
    Sample.addCheck(x, 2, 1);
    Due.is("prune(0)", x.prune(0), 1);
    Sample.oneLeaf(x, 0, 0, 3);
  }

  static void promise09OneMoreRight() {
    BeanGroves x = Sample.inTurn(0, 0, 1);
    x.plant(1, -1);
    Sample.addCheck(x, 2, 0);
    Sample.addCheck(x, 3, 1);
    Due.is("prune(0)", x.prune(0), 0);
    Sample.row(x, 0, 2, 0, 0, 1);
  }

  static void promise09OneLessRight() {
    BeanGroves x = Sample.inTurn(0, 0, 1);
    x.plant(1, -1);
    Sample.addCheck(x, 3, 0);
    Due.is("prune(0)", x.prune(0), 1);
    Sample.oneLeaf(x, 0, 0, 3);
  }

  /** As it was grown the root is right about 1 check, as many as are of its sort; then about 2. */
  static void promise09TheNodeAsItIsThen() {
    BeanGroves x = Sample.highFork();
    x.plant(1, -1);
    Sample.addCheck(x, 5, 1);
    Sample.addCheck(x, 40, 0);
    Due.is("about(0, 4)", x.about(0, 4), 1);
    Due.is("prune(0)", x.prune(0), 1);
    Sample.row(x, 0, 1, 11, -1, -1);
    Sample.row(x, 0, 2, 0, 1, 0);
    Due.is("about(0, 4) then", x.about(0, 4), 2);
  }

  static void promise09SortsAsTheyAreNow() {
    BeanGroves x = Sample.inTurn(0, 0, 1);
    x.plant(1, -1);
    int check = Sample.addCheck(x, 3, 0);
    x.setSort(check, 1);
    Due.is("prune(0) by its new sort", x.prune(0), 0);
    x.setSort(check, 0);
    Due.is("prune(0) by the old one again", x.prune(0), 1);
  }

  static void promise09ChecksAsTheyAreNow() {
    BeanGroves x = Sample.inTurn(0, 0, 1);
    x.plant(1, -1);
    x.check(2, true);
    Due.is("prune(0) by a bean it was grown of", x.prune(0), 0);
    x.check(2, false);
    Due.is("prune(0) without it", x.prune(0), 1);
  }

  /** The leaf is of the sort that most were when it was grown, whatever the checks are. */
  static void promise09ALeafOfItsSort() {
    BeanGroves x = Sample.highFork();
    x.plant(1, -1);
    Sample.addCheck(x, 5, 2);
    Sample.addCheck(x, 6, 2);
    Due.is("prune(0)", x.prune(0), 2);
    Sample.oneLeaf(x, 0, 0, 6);
    Due.is("says(0, 5, 0, 0)", x.says(0, 5, 0, 0), 0);
  }

  static void promise09CountsThoseThatVanishLater() {
    BeanGroves x = Sample.highFork();
    x.plant(1, -1);
    Sample.addCheck(x, 5, 0);
    Due.is("prune(0): the high fork, then the root", x.prune(0), 2);
    Sample.oneLeaf(x, 0, 0, 6);
  }

  /** The high fork is right about the last check, so only the root becomes a leaf. */
  static void promise09DoesNotCountThoseThatOnlyVanish() {
    BeanGroves x = Sample.highFork();
    x.plant(1, -1);
    Sample.addCheck(x, 5, 0);
    Sample.addCheck(x, 6, 0);
    Sample.addCheck(x, 40, 2);
    Due.is("prune(0)", x.prune(0), 1);
    Sample.oneLeaf(x, 0, 0, 6);
  }

  static void promise09Again() {
    BeanGroves x = Sample.lowFork();
    x.plant(1, -1);
    Sample.addCheck(x, 21, 1);
    Due.is("prune(0)", x.prune(0), 1);
    List<Integer> before = Sample.nodes(x, 0);
    Due.is("prune(0) again", x.prune(0), 0);
    Due.isTrue("the tree stays", before.equals(Sample.nodes(x, 0)));
  }

  static void promise09PlacesMoveUp() {
    BeanGroves x = Sample.lowFork();
    x.plant(1, -1);
    Due.is("the high part of the root", x.node(0, 0, 6), 4);
    Sample.addCheck(x, 21, 1);
    x.prune(0);
    Sample.row(x, 0, 0, 0, -1, -1);
    Sample.row(x, 0, 5, 1, -1, -1);
    Sample.row(x, 0, 6, 2, -1, -1);
    Due.thrown("node(0, 3, 0)", INDEX, () -> x.node(0, 3, 0));
  }

  /** A fork before it and behind it stay: only the middle of the row vanishes. */
  static void promise09AForkInTheMiddle() {
    BeanGroves x = Sample.inTurn(0, 0, 1, 1, 2, 2, 2, 0);
    x.plant(1, -1);
    Sample.addCheck(x, 1, 0);
    Sample.addCheck(x, 6, 2);
    Sample.addCheck(x, 50, 0);
    Due.is("prune(0): the low fork", x.prune(0), 1);
    Sample.row(x, 0, 1, 4, -1, 7, -1, -1);
    Sample.row(x, 0, 2, 0, 0, 2, 2, 0);
    Sample.row(x, 0, 3, 8, 4, 4, 3, 1);
    Sample.row(x, 0, 4, 0, 1, 1, 2, 2);
    Sample.row(x, 0, 6, 2, -1, 4, -1, -1);
  }

  static void promise09OtherTreesStay() {
    BeanGroves x = Sample.highFork();
    x.plant(1, -1);
    x.plant(1, -1);
    x.plant(1, -1);
    Due.is("prune(1)", x.prune(1), 2);
    Sample.row(x, 0, 2, 0, 1, 0, 0, 2);
    Sample.row(x, 1, 2, 0);
    Sample.row(x, 2, 2, 0, 1, 0, 0, 2);
  }

  static void promise09TreesStayBehindPruning() {
    BeanGroves x = Sample.lowFork();
    x.plant(1, -1);
    Sample.addCheck(x, 21, 1);
    x.prune(0);
    Sample.treesStay(x, "setSort, check and bean", pruned -> {
      for (int bean = 0; bean < 7; bean++) {
        pruned.setSort(bean, 2);
        pruned.check(bean, bean % 2 == 0);
      }
      pruned.bean(1, 1, 1, 1);
    });
  }

  static void promise09BeansStay() {
    BeanGroves x = Sample.highFork();
    x.plant(1, -1);
    Sample.addCheck(x, 5, 0);
    x.prune(0);
    int[] due = {7, 1, 1, 3, 1, 3, 1};
    for (int what = 0; what <= 6; what++) {
      Due.is("count(" + what + ")", x.count(what), due[what]);
    }
  }
}
