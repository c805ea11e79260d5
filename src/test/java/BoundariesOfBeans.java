/** The boundary cases of the promises 1 to 6, a test for each sentence that names one. */
final class BoundariesOfBeans {
  private static final Class<?> ILLEGAL = Sample.ILLEGAL;
  private static final Class<?> INDEX = Sample.INDEX;
  private static final Class<?> STATE = Sample.STATE;

  private BoundariesOfBeans() {}

  // ---- promise 1: a new object

  static void promise01NoBeanAtFirst() {
    BeanGroves x = new BeanGroves();
    Due.is("count(0)", x.count(0), 0);
    Due.thrown("told(0, 0)", INDEX, () -> x.told(0, 0));
    Due.is("count(3)", x.count(3), 0);
  }

  static void promise01NoCheckAtFirst() {
    BeanGroves x = new BeanGroves();
    Due.is("count(1)", x.count(1), 0);
    Due.is("count(4)", x.count(4), 0);
  }

  static void promise01NoTreeAtFirst() {
    BeanGroves x = new BeanGroves();
    Due.is("count(2)", x.count(2), 0);
    Due.thrown("about(0, 0)", INDEX, () -> x.about(0, 0));
  }

  static void promise01DepthIs3AtFirst() {
    BeanGroves x = Sample.ladder();
    Due.is("count(5)", x.count(5), 3);
    x.plant(1, -1);
    Due.is("the depth of a tree that would be deeper", x.about(0, 2), 3);
    Due.is("setDepth(1)", x.setDepth(1), 3);
  }

  static void promise01LeastIs1AtFirst() {
    BeanGroves x = Sample.ladder();
    Due.is("count(6)", x.count(6), 1);
    Due.is("best(1), which leaves one low", x.best(1), 1);
    Due.is("setLeast(2)", x.setLeast(2), 1);
  }

  static void promise01ObjectsAreApart() {
    BeanGroves one = Sample.noRoom();
    BeanGroves other = new BeanGroves();
    Due.is("digest() of one beside a full one", other.digest(), new BeanGroves().digest());
    long before = one.digest();
    other.bean(1, 1, 1, 1);
    other.setDepth(1);
    other.setLeast(6);
    other.plant(1, -1);
    Due.is("digest() of the full one", one.digest(), before);
  }

  /** "At most 512 calls": the last of them still answers as it should. */
  static void promise01FiveHundredAndTwelveCalls() {
    BeanGroves x = Sample.largest();
    long digest = x.digest();
    int calls = 20 + 2 + 1;
    for (; calls < 508; calls++) {
      if (calls % 3 == 0) {
        Due.is("advise() as the call " + calls, x.advise(), 1);
      } else if (calls % 3 == 1) {
        Due.is("would(5, 1, 0) as the call " + calls, x.would(5, 1, 0), 39);
      } else {
        Due.is("digest() as the call " + calls, x.digest(), digest);
      }
    }
    Due.is("fell(0) as the call 509", x.fell(0), 0);
    Due.is("plant(1, -1) as the call 510", x.plant(1, -1), 0);
    Due.thrown("fell(1) as the call 511", INDEX, () -> x.fell(1));
    Due.is("digest() as the call 512", x.digest(), digest);
  }

  // ---- promise 2: bean

  static void promise02MeasureA() {
    BeanGroves x = new BeanGroves();
    Due.is("bean of a 0", x.bean(0, 7, 8, 1), 0);
    Due.is("bean of a 50", x.bean(50, 7, 8, 1), 1);
    Due.is("told(0, 0)", x.told(0, 0), 0);
    Due.is("told(1, 0)", x.told(1, 0), 50);
    for (int bad : Sample.outside(0, 50)) {
      Due.thrown("bean of a " + bad, ILLEGAL, () -> x.bean(bad, 7, 8, 1));
    }
    Due.is("count(0)", x.count(0), 2);
  }

  static void promise02MeasureB() {
    BeanGroves x = new BeanGroves();
    Due.is("bean of b 0", x.bean(7, 0, 8, 1), 0);
    Due.is("bean of b 50", x.bean(7, 50, 8, 1), 1);
    Due.is("told(0, 1)", x.told(0, 1), 0);
    Due.is("told(1, 1)", x.told(1, 1), 50);
    for (int bad : Sample.outside(0, 50)) {
      Due.thrown("bean of b " + bad, ILLEGAL, () -> x.bean(7, bad, 8, 1));
    }
    Due.is("count(0)", x.count(0), 2);
  }

  static void promise02MeasureC() {
    BeanGroves x = new BeanGroves();
    Due.is("bean of c 0", x.bean(7, 8, 0, 1), 0);
    Due.is("bean of c 50", x.bean(7, 8, 50, 1), 1);
    Due.is("told(0, 2)", x.told(0, 2), 0);
    Due.is("told(1, 2)", x.told(1, 2), 50);
    for (int bad : Sample.outside(0, 50)) {
      Due.thrown("bean of c " + bad, ILLEGAL, () -> x.bean(7, 8, bad, 1));
    }
    Due.is("count(0)", x.count(0), 2);
  }

  static void promise02Sort() {
    BeanGroves x = new BeanGroves();
    for (int sort = 0; sort <= 2; sort++) {
      Due.is("bean of sort " + sort, x.bean(7, 8, 9, sort), sort);
      Due.is("told(" + sort + ", 3)", x.told(sort, 3), sort);
    }
    for (int bad : Sample.outside(0, 2)) {
      Due.thrown("bean of sort " + bad, ILLEGAL, () -> x.bean(7, 8, 9, bad));
    }
    Due.is("count(0)", x.count(0), 3);
  }

  static void promise02AllAtTheirEnds() {
    BeanGroves x = new BeanGroves();
    Due.is("bean(0, 0, 0, 0)", x.bean(0, 0, 0, 0), 0);
    Due.is("bean(50, 50, 50, 2)", x.bean(50, 50, 50, 2), 1);
    for (int bad : Sample.outside(0, 50)) {
      Due.thrown("bean of measures " + bad, ILLEGAL, () -> x.bean(bad, bad, bad, bad));
    }
  }

  static void promise02NumberedFrom0() {
    BeanGroves x = new BeanGroves();
    for (int bean = 0; bean < 20; bean++) {
      Due.is("bean " + bean, x.bean(50 - bean, bean, 2 * bean, bean % 3), bean);
    }
    for (int bean = 0; bean < 20; bean++) {
      Due.is("told(" + bean + ", 0)", x.told(bean, 0), 50 - bean);
      Due.is("told(" + bean + ", 1)", x.told(bean, 1), bean);
      Due.is("told(" + bean + ", 2)", x.told(bean, 2), 2 * bean);
      Due.is("told(" + bean + ", 3)", x.told(bean, 3), bean % 3);
    }
  }

  static void promise02TheTwentiethIsTaken() {
    BeanGroves x = new BeanGroves();
    for (int bean = 0; bean < 19; bean++) {
      x.bean(1, 1, 1, 0);
    }
    Due.is("the twentieth", x.bean(2, 2, 2, 2), 19);
    Due.is("count(0)", x.count(0), 20);
    Due.is("told(19, 3)", x.told(19, 3), 2);
  }

  static void promise02NoneBeyondTwenty() {
    BeanGroves x = Sample.full();
    Due.thrown("the bean 20", STATE, () -> x.bean(0, 0, 0, 0));
    Due.thrown("the bean 20 again", STATE, () -> x.bean(50, 50, 50, 2));
    Due.is("count(0)", x.count(0), 20);
  }

  /** There are 20, whether they are checks or not. */
  static void promise02NoneBeyondTwentyChecks() {
    BeanGroves x = Sample.full();
    Sample.allChecks(x);
    Due.thrown("the bean 20", STATE, () -> x.bean(0, 0, 0, 0));
  }

  static void promise02WrongMeasureIsNamedBeforeTooMany() {
    BeanGroves x = Sample.full();
    for (int bad : Sample.outside(0, 50)) {
      Due.thrown("bean of a " + bad, ILLEGAL, () -> x.bean(bad, 0, 0, 0));
      Due.thrown("bean of b " + bad, ILLEGAL, () -> x.bean(0, bad, 0, 0));
      Due.thrown("bean of c " + bad, ILLEGAL, () -> x.bean(0, 0, bad, 0));
    }
  }

  static void promise02WrongSortIsNamedBeforeTooMany() {
    BeanGroves x = Sample.full();
    for (int bad : Sample.outside(0, 2)) {
      Due.thrown("bean of sort " + bad, ILLEGAL, () -> x.bean(0, 0, 0, bad));
    }
  }

  static void promise02NoCheckAtFirst() {
    BeanGroves x = new BeanGroves();
    x.bean(1, 2, 3, 0);
    x.check(0, true);
    x.bean(1, 2, 3, 0);
    Due.is("told(1, 4)", x.told(1, 4), 0);
    Due.is("count(1)", x.count(1), 1);
  }

  static void promise02AlikeBeansAreTwo() {
    BeanGroves x = new BeanGroves();
    Due.is("bean(1, 2, 3, 0)", x.bean(1, 2, 3, 0), 0);
    Due.is("bean(1, 2, 3, 0) again", x.bean(1, 2, 3, 0), 1);
    Due.is("count(0)", x.count(0), 2);
  }

  static void promise02RefusedChangesNothing() {
    for (int bad : Sample.outside(0, 50)) {
      String of = " " + bad;
      for (BeanGroves x : Sample.states()) {
        Sample.refused(x, "bean of a" + of, ILLEGAL, () -> x.bean(bad, 1, 2, 0));
      }
      for (BeanGroves x : Sample.states()) {
        Sample.refused(x, "bean of b" + of, ILLEGAL, () -> x.bean(1, bad, 2, 0));
      }
      for (BeanGroves x : Sample.states()) {
        Sample.refused(x, "bean of c" + of, ILLEGAL, () -> x.bean(1, 2, bad, 0));
      }
    }
    for (int bad : Sample.outside(0, 2)) {
      for (BeanGroves x : Sample.states()) {
        Sample.refused(x, "bean of sort " + bad, ILLEGAL, () -> x.bean(1, 2, 3, bad));
      }
    }
    BeanGroves full = Sample.noRoom();
    Sample.refused(full, "the bean 20", STATE, () -> full.bean(1, 2, 3, 0));
  }

  static void promise02TheNextBehindRefusedOnes() {
    BeanGroves x = new BeanGroves();
    x.bean(1, 1, 1, 0);
    Due.thrown("bean of c 51", ILLEGAL, () -> x.bean(2, 2, 51, 0));
    Due.thrown("bean of sort 3", ILLEGAL, () -> x.bean(2, 2, 2, 3));
    Due.is("the next bean", x.bean(3, 3, 3, 1), 1);
    Due.is("told(1, 0)", x.told(1, 0), 3);
  }

  // ---- promise 3: setSort

  static void promise03Bean() {
    BeanGroves x = Sample.highFork();
    Due.is("setSort of the first", x.setSort(0, 0), 1);
    Due.is("setSort of the last", x.setSort(5, 0), 2);
    for (int bad : Sample.outside(0, 5)) {
      Due.thrown("setSort of bean " + bad, INDEX, () -> x.setSort(bad, 0));
    }
  }

  static void promise03NoBean() {
    BeanGroves x = new BeanGroves();
    for (int bad : Sample.outside(0, -1)) {
      Due.thrown("setSort of bean " + bad, INDEX, () -> x.setSort(bad, 0));
    }
  }

  static void promise03TwentyBeans() {
    BeanGroves x = Sample.full();
    Due.is("setSort(19, 0)", x.setSort(19, 0), 1);
    Due.is("told(19, 3)", x.told(19, 3), 0);
    Due.thrown("setSort(20, 0)", INDEX, () -> x.setSort(20, 0));
  }

  static void promise03Sort() {
    BeanGroves x = Sample.highFork();
    int before = 1;
    for (int sort = 0; sort <= 2; sort++) {
      Due.is("setSort(0, " + sort + ")", x.setSort(0, sort), before);
      before = sort;
    }
    for (int bad : Sample.outside(0, 2)) {
      Due.thrown("setSort to " + bad, ILLEGAL, () -> x.setSort(0, bad));
    }
    Due.is("told(0, 3)", x.told(0, 3), 2);
  }

  static void promise03TheSameSortAgain() {
    BeanGroves x = Sample.highFork();
    Due.is("setSort(5, 2)", x.setSort(5, 2), 2);
    Due.is("told(5, 3)", x.told(5, 3), 2);
  }

  static void promise03WrongBeanIsNamedBeforeWrongSort() {
    BeanGroves x = Sample.highFork();
    for (int bad : Sample.outside(0, 5)) {
      for (int sort : Sample.outside(0, 2)) {
        String call = "setSort(" + bad + ", " + sort + ")";
        Due.thrown(call, INDEX, () -> x.setSort(bad, sort));
      }
    }
  }

  static void promise03OfACheck() {
    BeanGroves x = Sample.highFork();
    x.check(5, true);
    Due.is("setSort(5, 1)", x.setSort(5, 1), 2);
    Due.is("told(5, 4)", x.told(5, 4), 1);
    Due.is("told(5, 3)", x.told(5, 3), 1);
  }

  static void promise03OthersStay() {
    BeanGroves x = Sample.full();
    x.setSort(10, 0);
    for (int bean = 0; bean < 20; bean++) {
      Due.is("told(" + bean + ", 3)", x.told(bean, 3), bean == 10 ? 0 : bean % 3);
    }
  }

  static void promise03TreesStay() {
    Sample.treesStay(Sample.inUse(), "setSort of each", x -> {
      for (int bean = 0; bean < 12; bean++) {
        x.setSort(bean, (x.told(bean, 3) + 1) % 3);
      }
    });
  }

  static void promise03RefusedChangesNothing() {
    for (int bad : Sample.outside(0, 19)) {
      for (BeanGroves x : Sample.states()) {
        Sample.refused(x, "setSort of bean " + bad, INDEX, () -> x.setSort(bad, 1));
      }
    }
    for (int bad : Sample.outside(0, 2)) {
      BeanGroves used = Sample.inUse();
      Sample.refused(used, "setSort to " + bad, ILLEGAL, () -> used.setSort(3, bad));
      BeanGroves full = Sample.noRoom();
      Sample.refused(full, "setSort of 19 to " + bad, ILLEGAL, () -> full.setSort(19, bad));
    }
  }

  // ---- promise 4: check

  static void promise04Bean() {
    BeanGroves x = Sample.highFork();
    Due.isTrue("check of the first", !x.check(0, true));
    Due.isTrue("check of the last", !x.check(5, true));
    for (int bad : Sample.outside(0, 5)) {
      Due.thrown("check true of bean " + bad, INDEX, () -> x.check(bad, true) ? 1 : 0);
      Due.thrown("check false of bean " + bad, INDEX, () -> x.check(bad, false) ? 1 : 0);
    }
    Due.is("count(1)", x.count(1), 2);
  }

  static void promise04NoBean() {
    BeanGroves x = new BeanGroves();
    for (int bad : Sample.outside(0, -1)) {
      Due.thrown("check of bean " + bad, INDEX, () -> x.check(bad, true) ? 1 : 0);
    }
  }

  static void promise04TwentyBeans() {
    BeanGroves x = Sample.full();
    Due.isTrue("check(19, true)", !x.check(19, true));
    Due.is("told(19, 4)", x.told(19, 4), 1);
    Due.thrown("check(20, true)", INDEX, () -> x.check(20, true) ? 1 : 0);
  }

  static void promise04TwiceTheSame() {
    BeanGroves x = Sample.highFork();
    Due.isTrue("check(2, false) of none", !x.check(2, false));
    Due.isTrue("check(2, true)", !x.check(2, true));
    Due.isTrue("check(2, true) again", x.check(2, true));
    Due.is("count(1)", x.count(1), 1);
    Due.isTrue("check(2, false)", x.check(2, false));
    Due.isTrue("check(2, false) again", !x.check(2, false));
    Due.is("count(1) then", x.count(1), 0);
  }

  static void promise04AllTwenty() {
    BeanGroves x = Sample.full();
    Sample.allChecks(x);
    Due.is("count(1)", x.count(1), 20);
    Due.is("count(0)", x.count(0), 20);
    x.check(7, false);
    Due.is("count(1) less one", x.count(1), 19);
    Due.is("plant of the one", x.plant(1, -1), 0);
    Sample.oneLeaf(x, 0, 1, 1);
  }

  static void promise04TreesStay() {
    Sample.treesStay(Sample.inUse(), "check of each", x -> {
      for (int bean = 0; bean < 12; bean++) {
        x.check(bean, !x.check(bean, true));
      }
    });
  }

  static void promise04RefusedChangesNothing() {
    for (int bad : Sample.outside(0, 19)) {
      for (boolean is : new boolean[] {true, false}) {
        String call = "check(" + bad + ", " + is + ")";
        for (BeanGroves x : Sample.states()) {
          Sample.refused(x, call, INDEX, () -> x.check(bad, is) ? 1 : 0);
        }
      }
    }
  }

  // ---- promise 5: setDepth

  static void promise05Most() {
    BeanGroves x = new BeanGroves();
    int before = 3;
    for (int most : new int[] {1, 2, 3, 4, 5, 1}) {
      Due.is("setDepth(" + most + ")", x.setDepth(most), before);
      Due.is("count(5)", x.count(5), most);
      before = most;
    }
    for (int bad : Sample.outside(1, 5)) {
      Due.thrown("setDepth(" + bad + ")", ILLEGAL, () -> x.setDepth(bad));
    }
    Due.is("count(5) behind wrong ones", x.count(5), 1);
  }

  static void promise05TheSameAgain() {
    BeanGroves x = new BeanGroves();
    Due.is("setDepth(3)", x.setDepth(3), 3);
    Due.is("setDepth(3) again", x.setDepth(3), 3);
  }

  static void promise05Depth1() {
    BeanGroves x = Sample.ladder();
    x.setDepth(1);
    x.plant(1, -1);
    Sample.row(x, 0, 1, 1, -1, -1);
    Sample.row(x, 0, 4, 0, 1, 1);
  }

  static void promise05Depth5() {
    BeanGroves x = Sample.ladder();
    x.setDepth(5);
    x.plant(1, -1);
    Sample.row(x, 0, 1, 1, -1, 2, -1, 3, -1, 4, -1, 5, -1, -1);
    Sample.row(x, 0, 4, 0, 1, 1, 2, 2, 3, 3, 4, 4, 5, 5);
  }

  static void promise05TreesStay() {
    for (int most = 1; most <= 5; most++) {
      int to = most;
      Sample.treesStay(Sample.inUse(), "setDepth(" + most + ")", x -> x.setDepth(to));
    }
  }

  static void promise05RefusedChangesNothing() {
    for (int bad : Sample.outside(1, 5)) {
      for (BeanGroves x : Sample.states()) {
        Sample.refused(x, "setDepth(" + bad + ")", ILLEGAL, () -> x.setDepth(bad));
      }
    }
  }

  // ---- promise 6: setLeast

  static void promise06Many() {
    BeanGroves x = new BeanGroves();
    int before = 1;
    for (int many : new int[] {1, 2, 3, 4, 5, 6, 1}) {
      Due.is("setLeast(" + many + ")", x.setLeast(many), before);
      Due.is("count(6)", x.count(6), many);
      before = many;
    }
    for (int bad : Sample.outside(1, 6)) {
      Due.thrown("setLeast(" + bad + ")", ILLEGAL, () -> x.setLeast(bad));
    }
    Due.is("count(6) behind wrong ones", x.count(6), 1);
  }

  static void promise06TheSameAgain() {
    BeanGroves x = new BeanGroves();
    x.setLeast(6);
    Due.is("setLeast(6) again", x.setLeast(6), 6);
  }

  /** With 5 the cut behind the five gains the most, but it leaves 5 alone on its side. */
  static void promise06SixOnEitherSide() {
    BeanGroves x = Sample.inTurn(2, 2, 2, 2, 2, 1, 1, 1, 1, 1, 1, 1);
    x.setLeast(5);
    x.plant(1, -1);
    Sample.row(x, 0, 3, 12, 5, 7);
    x.setLeast(6);
    x.plant(1, -1);
    Sample.row(x, 1, 1, 6, -1, -1);
    Sample.row(x, 1, 3, 12, 6, 6);
  }

  static void promise06SixOnOneSideAlone() {
    BeanGroves x = Sample.inTurn(2, 2, 2, 2, 2, 1, 1, 1, 1, 1, 1);
    x.setLeast(6);
    x.plant(1, -1);
    Sample.oneLeaf(x, 0, 1, 11);
  }

  static void promise06TreesStay() {
    for (int many = 1; many <= 6; many++) {
      int to = many;
      Sample.treesStay(Sample.inUse(), "setLeast(" + many + ")", x -> x.setLeast(to));
    }
  }

  static void promise06RefusedChangesNothing() {
    for (int bad : Sample.outside(1, 6)) {
      for (BeanGroves x : Sample.states()) {
        Sample.refused(x, "setLeast(" + bad + ")", ILLEGAL, () -> x.setLeast(bad));
      }
    }
  }
}
