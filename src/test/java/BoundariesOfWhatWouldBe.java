import java.math.BigInteger;
import java.util.ArrayList;
import java.util.List;

/** The boundary cases of the promises 16 to 21, a test for each sentence that names one. */
final class BoundariesOfWhatWouldBe {
  private static final Class<?> ILLEGAL = Sample.ILLEGAL;
  private static final Class<?> INDEX = Sample.INDEX;

  private BoundariesOfWhatWouldBe() {}

  private static void fraction(BeanGroves x, int measure, int at, int above, int below) {
    Due.is("gain(" + measure + ", " + at + ", 0)", x.gain(measure, at, 0), above);
    Due.is("gain(" + measure + ", " + at + ", 1)", x.gain(measure, at, 1), below);
  }

  private static void cut(BeanGroves x, int measure, int number) {
    Due.is("best(0)", x.best(0), measure);
    Due.is("best(1)", x.best(1), number);
  }

  // ---- promise 16: gain

  static void promise16Measure() {
    BeanGroves x = new BeanGroves();
    x.bean(1, 2, 3, 0);
    x.bean(2, 3, 4, 1);
    fraction(x, 0, 1, 1, 1);
    fraction(x, 2, 3, 1, 1);
    for (int bad : Sample.outside(0, 2)) {
      Due.thrown("gain(" + bad + ", 1, 0)", INDEX, () -> x.gain(bad, 1, 0));
      Due.thrown("gain(" + bad + ", 1, 1)", INDEX, () -> x.gain(bad, 1, 1));
    }
  }

  static void promise16At() {
    BeanGroves x = Sample.along(new int[] {0, 50}, new int[] {0, 1});
    fraction(x, 0, 0, 1, 1);
    fraction(x, 0, 49, 1, 1);
    fraction(x, 0, 50, 0, 1);
    for (int bad : Sample.outside(0, 50)) {
      Due.thrown("gain(0, " + bad + ", 0)", ILLEGAL, () -> x.gain(0, bad, 0));
      Due.thrown("gain(2, " + bad + ", 1)", ILLEGAL, () -> x.gain(2, bad, 1));
    }
  }

  static void promise16What() {
    BeanGroves x = Sample.ladder();
    Due.is("gain(0, 1, 0)", x.gain(0, 1, 0), 3);
    Due.is("gain(0, 1, 1)", x.gain(0, 1, 1), 7);
    for (int bad : Sample.outside(0, 1)) {
      Due.thrown("gain(0, 1, " + bad + ")", INDEX, () -> x.gain(0, 1, bad));
    }
  }

  static void promise16WrongMeasureIsNamedBeforeWrongAt() {
    BeanGroves x = Sample.ladder();
    for (int bad : Sample.outside(0, 2)) {
      for (int at : Sample.outside(0, 50)) {
        String call = "gain(" + bad + ", " + at + ", 0)";
        Due.thrown(call, INDEX, () -> x.gain(bad, at, 0));
      }
    }
  }

  static void promise16WrongWhatIsNamedBeforeWrongAt() {
    BeanGroves x = Sample.ladder();
    for (int bad : Sample.outside(0, 1)) {
      for (int at : Sample.outside(0, 50)) {
        String call = "gain(0, " + at + ", " + bad + ")";
        Due.thrown(call, INDEX, () -> x.gain(0, at, bad));
      }
    }
  }

  static void promise16NoBeans() {
    BeanGroves x = new BeanGroves();
    for (int measure = 0; measure <= 2; measure++) {
      fraction(x, measure, 0, 0, 1);
      fraction(x, measure, 25, 0, 1);
      fraction(x, measure, 50, 0, 1);
    }
    Due.thrown("gain(3, 0, 0)", INDEX, () -> x.gain(3, 0, 0));
    Due.thrown("gain(0, 51, 0)", ILLEGAL, () -> x.gain(0, 51, 0));
  }

  static void promise16ChecksAlone() {
    BeanGroves x = Sample.ladder();
    Sample.allChecks(x);
    fraction(x, 0, 1, 0, 1);
    x.check(0, false);
    fraction(x, 0, 1, 0, 1);
    x.check(1, false);
    fraction(x, 0, 1, 1, 1);
  }

  static void promise16OneBean() {
    BeanGroves x = Sample.along(new int[] {25}, new int[] {2});
    fraction(x, 0, 24, 0, 1);
    fraction(x, 0, 25, 0, 1);
    fraction(x, 0, 26, 0, 1);
  }

  static void promise16AllLow() {
    BeanGroves x = Sample.ladder();
    fraction(x, 0, 7, 0, 1);
    fraction(x, 0, 8, 0, 1);
    fraction(x, 0, 50, 0, 1);
    fraction(x, 1, 0, 0, 1);
  }

  static void promise16AllHigh() {
    BeanGroves x = Sample.along(new int[] {49, 50, 50}, new int[] {0, 1, 2});
    fraction(x, 0, 0, 0, 1);
    fraction(x, 0, 48, 0, 1);
    fraction(x, 0, 49, 1, 1);
  }

  static void promise16GainsOf0() {
    fraction(Sample.cross(), 0, 10, 0, 1);
    fraction(Sample.cross(), 1, 10, 0, 1);
    fraction(Sample.evenParts(), 0, 10, 0, 1);
    fraction(Sample.inTurn(1, 1, 1), 0, 1, 0, 1);
  }

  static void promise16WholeGains() {
    BeanGroves x = Sample.inTurn(0, 0, 0, 0, 0, 0, 0, 0, 0, 0, 1, 1, 1, 1, 1, 1, 1, 1, 1, 1);
    fraction(x, 0, 10, 10, 1);
    fraction(Sample.inTurn(0, 0, 1, 1), 0, 2, 2, 1);
  }

  /** Told exactly: 1 + 11/5 - 18/6 is 1/5, and 2 + 10/4 - 14/6 is 13/6. */
  static void promise16CannotBeReduced() {
    BeanGroves x = Sample.highFork();
    fraction(x, 0, 11, 13, 6);
    x.setSort(0, 0);
    fraction(x, 0, 10, 1, 5);
    fraction(Sample.inTurn(0, 1, 0, 0, 0, 1, 0, 0), 0, 2, 1, 3);
    fraction(Sample.inTurn(0, 1, 0, 0, 0, 1, 0, 0), 0, 6, 1, 3);
  }

  /** 35/9 + 41/11 - 146/20 is 313/990. */
  static void promise16OfTwentyBeans() {
    BeanGroves x = new BeanGroves();
    for (int sort : new int[] {0, 0, 0, 0, 0, 1, 1, 1, 2}) {
      x.bean(1, 10, 2, sort);
    }
    for (int sort : new int[] {0, 0, 0, 0, 1, 1, 1, 1, 2, 2, 2}) {
      x.bean(1, 20, 2, sort);
    }
    fraction(x, 1, 9, 0, 1);
    fraction(x, 1, 10, 313, 990);
    fraction(x, 1, 19, 313, 990);
    fraction(x, 1, 20, 0, 1);
  }

  /** Any number is asked for, also one that no bean has; the least number does not matter. */
  static void promise16AnyCut() {
    BeanGroves x = Sample.along(new int[] {10, 20}, new int[] {0, 1});
    x.setLeast(6);
    fraction(x, 0, 9, 0, 1);
    fraction(x, 0, 10, 1, 1);
    fraction(x, 0, 15, 1, 1);
    fraction(x, 0, 19, 1, 1);
    fraction(x, 0, 20, 0, 1);
  }

  static void promise16RefusedChangesNothing() {
    for (int bad : Sample.outside(0, 50)) {
      for (BeanGroves x : Sample.states()) {
        Sample.refused(x, "gain(" + bad + ", 0, 0)", INDEX, () -> x.gain(bad, 0, 0));
      }
      for (BeanGroves x : Sample.states()) {
        Sample.refused(x, "gain(0, 0, " + bad + ")", INDEX, () -> x.gain(0, 0, bad));
      }
      for (BeanGroves x : Sample.states()) {
        Sample.refused(x, "gain(0, " + bad + ", 0)", ILLEGAL, () -> x.gain(0, bad, 0));
      }
    }
  }

  // ---- promise 17: best

  static void promise17What() {
    BeanGroves x = Sample.highFork();
    cut(x, 0, 11);
    for (int bad : Sample.outside(0, 1)) {
      Due.thrown("best(" + bad + ")", INDEX, () -> x.best(bad));
      Due.thrown("best(" + bad + ") of a new one", INDEX, () -> new BeanGroves().best(bad));
    }
  }

  static void promise17NoBeans() {
    cut(new BeanGroves(), -1, -1);
  }

  static void promise17ChecksAlone() {
    BeanGroves x = Sample.highFork();
    Sample.allChecks(x);
    cut(x, -1, -1);
  }

  static void promise17OneBean() {
    cut(Sample.along(new int[] {25}, new int[] {1}), -1, -1);
  }

  static void promise17OneSort() {
    cut(Sample.inTurn(1, 1, 1, 1, 1, 1), -1, -1);
  }

  static void promise17AllOnOneSide() {
    for (int at : new int[] {0, 25, 49, 50}) {
      BeanGroves x = new BeanGroves();
      x.bean(at, at, at, 0);
      x.bean(at, at, at, 1);
      cut(x, -1, -1);
    }
  }

  static void promise17NoneGainsMoreThan0() {
    cut(Sample.cross(), -1, -1);
    cut(Sample.evenParts(), -1, -1);
  }

  static void promise17NumberOf0() {
    cut(Sample.along(new int[] {0, 1}, new int[] {0, 1}), 0, 0);
    cut(Sample.along(new int[] {0, 50}, new int[] {0, 1}), 0, 0);
  }

  static void promise17NumberOf49() {
    cut(Sample.along(new int[] {49, 50}, new int[] {0, 1}), 0, 49);
  }

  static void promise17NumberOf50IsNeverTried() {
    BeanGroves x = new BeanGroves();
    x.bean(50, 50, 0, 0);
    x.bean(50, 50, 50, 1);
    cut(x, 2, 0);
  }

  static void promise17NumberOfABean() {
    cut(Sample.along(new int[] {40, 20}, new int[] {0, 1}), 0, 20);
  }

  static void promise17TheSameGainBySmallestMeasure() {
    BeanGroves x = new BeanGroves();
    x.bean(30, 20, 10, 0);
    x.bean(40, 30, 20, 1);
    cut(x, 0, 30);
    BeanGroves alikeIn0 = new BeanGroves();
    alikeIn0.bean(5, 20, 10, 0);
    alikeIn0.bean(5, 30, 20, 1);
    cut(alikeIn0, 1, 20);
  }

  static void promise17TheSameGainBySmallestNumber() {
    cut(Sample.inTurn(0, 1, 0, 0, 0, 1, 0, 0), 0, 2);
    BeanGroves x = Sample.ladder();
    x.setLeast(3);
    cut(x, 0, 3);
  }

  static void promise17MoreByVeryLittle() {
    cut(Sample.inTurn(1, 2, 1, 2, 0, 2, 1, 0, 0, 0, 2, 0, 0, 2, 2, 0, 2, 2, 1, 2), 0, 13);
  }

  static void promise17MoreByALargerMeasure() {
    BeanGroves x = new BeanGroves();
    x.bean(1, 1, 8, 0);
    x.bean(2, 2, 8, 0);
    x.bean(3, 1, 9, 1);
    x.bean(1, 2, 9, 1);
    cut(x, 2, 8);
  }

  /** The cut at 5 is the best one till it leaves too few low; of 11 beans no cut leaves 6 and 6. */
  static void promise17LeastOnEitherSide() {
    BeanGroves x = Sample.inTurn(2, 2, 2, 2, 2, 1, 1, 1, 1, 1, 1, 1);
    int[] due = {5, 5, 5, 5, 5, 6};
    for (int many = 1; many <= 6; many++) {
      x.setLeast(many);
      cut(x, 0, due[many - 1]);
    }
    x.check(11, true);
    cut(x, -1, -1);
  }

  static void promise17RefusedChangesNothing() {
    for (int bad : Sample.outside(0, 1)) {
      for (BeanGroves x : Sample.states()) {
        Sample.refused(x, "best(" + bad + ")", INDEX, () -> x.best(bad));
      }
    }
  }

  // ---- promise 18: would

  static void promise18Most() {
    BeanGroves x = Sample.ladder();
    for (int most = 1; most <= 5; most++) {
      Due.is("would(" + most + ", 1, 0)", x.would(most, 1, 0), 2 * most + 1);
    }
    for (int bad : Sample.outside(1, 5)) {
      Due.thrown("would(" + bad + ", 1, 0)", ILLEGAL, () -> x.would(bad, 1, 0));
    }
  }

  static void promise18Many() {
    BeanGroves x = Sample.inTurn(2, 2, 2, 2, 2, 1, 1, 1, 1, 1, 1, 1);
    for (int many = 1; many <= 5; many++) {
      Due.is("would(1, " + many + ", 1)", x.would(1, many, 1), 12);
    }
    Due.is("would(1, 6, 1)", x.would(1, 6, 1), 11);
    for (int bad : Sample.outside(1, 6)) {
      Due.thrown("would(1, " + bad + ", 0)", ILLEGAL, () -> x.would(1, bad, 0));
    }
  }

  static void promise18What() {
    BeanGroves x = Sample.highFork();
    Sample.addCheck(x, 11, 1);
    Sample.addCheck(x, 50, 2);
    int[] due = {3, 5, 1};
    int[] deeper = {5, 6, 2};
    for (int what = 0; what <= 2; what++) {
      Due.is("would(1, 1, " + what + ")", x.would(1, 1, what), due[what]);
      Due.is("would(2, 1, " + what + ")", x.would(2, 1, what), deeper[what]);
    }
    for (int bad : Sample.outside(0, 2)) {
      Due.thrown("would(1, 1, " + bad + ")", INDEX, () -> x.would(1, 1, bad));
    }
  }

  static void promise18WrongNumbersAreNamedBeforeWrongWhat() {
    BeanGroves x = Sample.highFork();
    for (int bad : Sample.outside(1, 6)) {
      for (int what : Sample.outside(0, 2)) {
        String end = bad + ", " + what + ")";
        Due.thrown("would(1, " + end, ILLEGAL, () -> x.would(1, bad, what));
      }
    }
    for (int bad : Sample.outside(1, 5)) {
      for (int what : Sample.outside(0, 2)) {
        String call = "would(" + bad + ", 1, " + what + ")";
        Due.thrown(call, ILLEGAL, () -> x.would(bad, 1, what));
      }
    }
  }

  static void promise18NoBeans() {
    BeanGroves x = new BeanGroves();
    for (int what = 0; what <= 2; what++) {
      Due.is("would(1, 1, " + what + ")", x.would(1, 1, what), 0);
      Due.is("would(5, 6, " + what + ")", x.would(5, 6, what), 0);
    }
  }

  /** 0 also for the checks: there is no tree that could be right about them. */
  static void promise18ChecksAlone() {
    BeanGroves x = Sample.full();
    Sample.allChecks(x);
    for (int what = 0; what <= 2; what++) {
      Due.is("would(5, 1, " + what + ")", x.would(5, 1, what), 0);
    }
  }

  static void promise18WrongOnesWithoutBeans() {
    BeanGroves x = new BeanGroves();
    for (int bad : Sample.outside(1, 6)) {
      Due.thrown("would(1, " + bad + ", 0)", ILLEGAL, () -> x.would(1, bad, 0));
    }
    for (int bad : Sample.outside(1, 5)) {
      Due.thrown("would(" + bad + ", 1, 0)", ILLEGAL, () -> x.would(bad, 1, 0));
    }
    for (int bad : Sample.outside(0, 2)) {
      Due.thrown("would(1, 1, " + bad + ")", INDEX, () -> x.would(1, 1, bad));
    }
  }

  static void promise18OneLeaf() {
    BeanGroves x = Sample.along(new int[] {25}, new int[] {1});
    Sample.addCheck(x, 0, 1);
    Sample.addCheck(x, 50, 1);
    Sample.addCheck(x, 25, 0);
    int[] due = {1, 1, 2};
    for (int what = 0; what <= 2; what++) {
      Due.is("would(5, 1, " + what + ")", x.would(5, 1, what), due[what]);
    }
  }

  static void promise18AsLargeAs20BeansMakeItBesideFiveTrees() {
    BeanGroves x = Sample.largest();
    for (int tree = 1; tree < 5; tree++) {
      x.plant(1, -1);
    }
    Due.is("would(5, 1, 0)", x.would(5, 1, 0), 39);
    Due.is("would(5, 1, 1)", x.would(5, 1, 1), 20);
    Due.is("would(5, 1, 2)", x.would(5, 1, 2), 0);
  }

  /** It takes the numbers that it is given, not those that are set. */
  static void promise18WhateverIsSet() {
    BeanGroves x = Sample.ladder();
    x.setDepth(1);
    x.setLeast(6);
    Due.is("would(5, 1, 0)", x.would(5, 1, 0), 11);
    Due.is("would(5, 3, 0)", x.would(5, 3, 0), 3);
  }

  static void promise18ChangesNothing() {
    for (BeanGroves x : Sample.states()) {
      List<Long> before = Sample.everything(x);
      for (int most = 1; most <= 5; most++) {
        for (int many = 1; many <= 6; many++) {
          x.would(most, many, 0);
        }
      }
      Due.isTrue("would changes nothing", before.equals(Sample.everything(x)));
    }
  }

  static void promise18RefusedChangesNothing() {
    for (int bad : Sample.outside(1, 6)) {
      for (BeanGroves x : Sample.states()) {
        Sample.refused(x, "would(1, " + bad + ", 0)", ILLEGAL, () -> x.would(1, bad, 0));
      }
    }
    for (int bad : Sample.outside(1, 5)) {
      for (BeanGroves x : Sample.states()) {
        Sample.refused(x, "would(" + bad + ", 1, 0)", ILLEGAL, () -> x.would(bad, 1, 0));
      }
    }
    for (int bad : Sample.outside(0, 2)) {
      for (BeanGroves x : Sample.states()) {
        Sample.refused(x, "would(5, 1, " + bad + ")", INDEX, () -> x.would(5, 1, bad));
      }
    }
  }

  // ---- promise 19: advise

  static void promise19NoBeans() {
    Due.is("advise()", new BeanGroves().advise(), -1);
  }

  static void promise19ChecksAlone() {
    BeanGroves x = Sample.full();
    Sample.allChecks(x);
    Due.is("advise()", x.advise(), -1);
  }

  /** Every depth is right about none: 1 is the smallest one of them. */
  static void promise19NoChecks() {
    Due.is("advise()", Sample.ladder().advise(), 1);
  }

  static void promise19OneLeaf() {
    BeanGroves x = Sample.along(new int[] {25}, new int[] {1});
    Sample.addCheck(x, 25, 1);
    Due.is("advise()", x.advise(), 1);
  }

  static void promise19RightAboutNoneAtAnyDepth() {
    BeanGroves x = Sample.ladder();
    Sample.addCheck(x, 1, 2);
    Due.is("advise()", x.advise(), 1);
  }

  static void promise19RightAtDepth5Alone() {
    BeanGroves x = Sample.inTurn(2, 0, 1, 2, 2, 0, 1);
    Sample.addCheck(x, 3, 1);
    for (int most = 1; most <= 4; most++) {
      Due.is("would(" + most + ", 1, 2)", x.would(most, 1, 2), 0);
    }
    Due.is("would(5, 1, 2)", x.would(5, 1, 2), 1);
    Due.is("advise()", x.advise(), 5);
  }

  /** Of the depths from 2 on, which all are right about both, 2 is the smallest one. */
  static void promise19TheSmallestOfSeveral() {
    BeanGroves x = Sample.highFork();
    Sample.addCheck(x, 11, 1);
    Sample.addCheck(x, 40, 2);
    int[] due = {1, 2, 2, 2, 2};
    for (int most = 1; most <= 5; most++) {
      Due.is("would(" + most + ", 1, 2)", x.would(most, 1, 2), due[most - 1]);
    }
    Due.is("advise()", x.advise(), 2);
  }

  /** A greater depth is right about fewer: then the smaller one is the best. */
  static void promise19DeeperIsWorse() {
    BeanGroves x = Sample.highFork();
    Sample.addCheck(x, 40, 0);
    Due.is("would(1, 1, 2)", x.would(1, 1, 2), 1);
    Due.is("would(2, 1, 2)", x.would(2, 1, 2), 0);
    Due.is("advise()", x.advise(), 1);
  }

  static void promise19WithTheLeastNumberAsItIs() {
    BeanGroves x = Sample.highFork();
    Sample.addCheck(x, 40, 2);
    Due.is("advise()", x.advise(), 2);
    x.setLeast(2);
    Due.is("advise() with 2", x.advise(), 1);
    x.setLeast(6);
    Due.is("advise() with 6", x.advise(), 1);
  }

  static void promise19WhateverTheDepthIs() {
    BeanGroves x = Sample.inTurn(2, 0, 1, 2, 2, 0, 1);
    Sample.addCheck(x, 3, 1);
    for (int most = 1; most <= 5; most++) {
      x.setDepth(most);
      Due.is("advise() with the depth " + most, x.advise(), 5);
    }
  }

  static void promise19ChangesNothing() {
    for (BeanGroves x : Sample.states()) {
      List<Long> before = Sample.everything(x);
      x.advise();
      Due.isTrue("advise changes nothing", before.equals(Sample.everything(x)));
    }
  }

  // ---- promise 20: mean

  static void promise20WithoutTrees() {
    Due.isTrue("mean() of a new one", new BeanGroves().mean() == 0.0);
    BeanGroves x = Sample.highFork();
    x.plant(1, -1);
    x.fell(0);
    Due.isTrue("mean() behind fell", x.mean() == 0.0);
  }

  static void promise20OneTree() {
    BeanGroves leaf = Sample.along(new int[] {25}, new int[] {1});
    leaf.plant(1, -1);
    Due.isTrue("mean() of one leaf", leaf.mean() == 1.0);
    Due.isTrue("mean() of the largest", Sample.largest().mean() == 39.0);
  }

  /** (3 + 5 + 5) / 3 and (3 + 5 + 5 + 5 + 1) / 5 are no whole numbers. */
  static void promise20NotWhole() {
    BeanGroves x = Sample.highFork();
    x.setDepth(1);
    x.plant(1, -1);
    x.setDepth(2);
    x.plant(1, -1);
    Due.isTrue("mean() of 3 and 5", x.mean() == 4.0);
    x.plant(1, -1);
    Due.isTrue("mean() of 3, 5 and 5", x.mean() == 13.0 / 3.0);
    x.plant(1, -1);
    Due.isTrue("mean() of 3, 5, 5 and 5", x.mean() == 4.5);
    x.setLeast(6);
    x.plant(1, -1);
    Due.isTrue("mean() of 3, 5, 5, 5 and 1", x.mean() == 19.0 / 5.0);
  }

  static void promise20BehindPruningAndFell() {
    BeanGroves x = Sample.highFork();
    x.plant(1, -1);
    x.plant(1, -1);
    x.prune(0);
    Due.isTrue("mean() of 1 and 5", x.mean() == 3.0);
    x.fell(0);
    Due.isTrue("mean() of 5", x.mean() == 5.0);
  }

  // ---- promise 21: digest

  /** d * 31 + x with numbers that know no wrap-around. */
  private static BigInteger unwrapped(List<Integer> numbers) {
    BigInteger d = BigInteger.valueOf(1699);
    for (int x : numbers) {
      d = d.multiply(BigInteger.valueOf(31)).add(BigInteger.valueOf(x));
    }
    return d;
  }

  /** What the other calls tell, in the order in which the document names it. */
  private static List<Integer> numbers(BeanGroves x) {
    List<Integer> numbers = new ArrayList<>();
    for (int what = 0; what <= 6; what++) {
      numbers.add(x.count(what));
    }
    int beans = numbers.get(0);
    int trees = numbers.get(2);
    for (int bean = 0; bean < beans; bean++) {
      for (int what = 0; what <= 4; what++) {
        numbers.add(x.told(bean, what));
      }
    }
    for (int tree = 0; tree < trees; tree++) {
      for (int what = 0; what <= 6; what++) {
        numbers.add(x.about(tree, what));
      }
      numbers.addAll(Sample.nodes(x, tree));
    }
    return numbers;
  }

  /** 1699 * 31^7 + 3 * 31 + 1 is far below the largest long. */
  static void promise21OfANewOne() {
    Due.is("digest()", new BeanGroves().digest(), 1699L * 27512614111L + 94);
  }

  /** 12 numbers follow 1699: that is more than 64 bits can tell. */
  static void promise21WrapsAround() {
    BeanGroves x = new BeanGroves();
    x.bean(50, 0, 49, 2);
    BigInteger d = unwrapped(List.of(1, 0, 0, 0, 0, 3, 1, 50, 0, 49, 2, 0));
    Due.isTrue("it is larger than a long", d.bitLength() > 64);
    Due.is("digest()", x.digest(), d.longValue());
  }

  /** Digests of one bean each; some of them have wrapped around to less than 0. */
  static void promise21WrapsAroundBelow0() {
    int below = 0;
    for (int a = 0; a <= 50; a++) {
      BeanGroves x = new BeanGroves();
      x.bean(a, 50 - a, a, 1);
      x.setDepth(1 + a % 5);
      BigInteger d = unwrapped(List.of(1, 0, 0, 0, 0, 1 + a % 5, 1, a, 50 - a, a, 1, 0));
      Due.is("digest() of a bean of " + a, x.digest(), d.longValue());
      below += d.longValue() < 0 ? 1 : 0;
    }
    Due.isTrue("some are below 0", below > 0);
  }

  static void promise21OneLeaf() {
    BeanGroves x = Sample.along(new int[] {25}, new int[] {1});
    x.plant(3, -1);
    List<Integer> due = new ArrayList<>(List.of(1, 0, 1, 1, 0, 3, 1));
    due.addAll(List.of(25, 0, 0, 1, 0));
    due.addAll(List.of(1, 1, 0, 1, 0, 3, -1));
    due.addAll(List.of(-1, -1, 1, 1, 0, -1, -1));
    Due.is("digest()", x.digest(), unwrapped(due).longValue());
  }

  static void promise21OfOneInUse() {
    BeanGroves x = Sample.inUse();
    Due.is("digest()", x.digest(), unwrapped(numbers(x)).longValue());
  }

  static void promise21OfTheLargest() {
    BeanGroves x = Sample.largest();
    Due.is("digest()", x.digest(), unwrapped(numbers(x)).longValue());
  }

  static void promise21OfFiveTrees() {
    BeanGroves x = Sample.highFork();
    for (int tree = 0; tree < 5; tree++) {
      x.setDepth(1 + tree % 2);
      x.plant(5, tree - 1);
    }
    Due.is("digest()", x.digest(), unwrapped(numbers(x)).longValue());
    x.fell(1);
    x.prune(2);
    Due.is("digest() behind fell and prune", x.digest(), unwrapped(numbers(x)).longValue());
  }

  static void promise21ChangesNothing() {
    BeanGroves x = Sample.noRoom();
    List<Long> before = Sample.everything(x);
    long d = x.digest();
    Due.is("digest() again", x.digest(), d);
    Due.isTrue("digest changes nothing", before.equals(Sample.everything(x)));
  }
}
