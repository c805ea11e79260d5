import java.util.Random;

/**
 * Runs of calls, with a fixed seed each, on the class and on the model: every answer, every
 * exception and the digest behind every call that might change something must be the same.
 */
public final class ModelTest {
  private static final int RUNS = 400;
  private static final int CALLS = 150;

  private final Random dice;
  private final BeanGroves x = new BeanGroves();
  private final Model model = new Model();
  private final int run;
  private final int from;
  private final int span;
  private final int sorts;
  private String call = "";

  private ModelTest(int run) {
    this.run = run;
    dice = new Random(run);
    int[] spans = {1, 3, 6, 20, 51};
    span = spans[dice.nextInt(spans.length)];
    from = dice.nextBoolean() ? 0 : 51 - span;
    sorts = 1 + dice.nextInt(3);
  }

  public static void main(String[] args) {
    for (int run = 1; run <= RUNS && Due.wrong() < 20; run++) {
      new ModelTest(run).go();
    }
    Due.end();
  }

  private void go() {
    int filled = dice.nextInt(21);
    for (int bean = 0; bean < filled; bean++) {
      step(0);
      if (dice.nextInt(3) == 0) {
        step(2);
      }
    }
    for (int turn = 0; turn < CALLS && Due.wrong() < 20; turn++) {
      step(dice.nextInt(20));
      long before = model.digest();
      same(x::digest, () -> before, "digest behind " + call);
    }
  }

  /** Mostly a number that is allowed, now and then one that is just outside or far off. */
  private int some(int least, int most) {
    int odd = dice.nextInt(60);
    if (odd == 0) {
      return least - 1;
    }
    if (odd == 1) {
      return most + 1;
    }
    if (odd == 2) {
      return dice.nextBoolean() ? Integer.MIN_VALUE : Integer.MAX_VALUE;
    }
    return most < least ? least : least + dice.nextInt(most - least + 1);
  }

  private int measure() {
    return dice.nextInt(80) == 0 ? some(0, 50) : from + dice.nextInt(span);
  }

  private int sort() {
    return dice.nextInt(40) == 0 ? some(0, 2) : dice.nextInt(sorts);
  }

  private int tree() {
    return some(0, model.trees.size() - 1);
  }

  private int ofBean() {
    return some(0, model.beans.size() - 1);
  }

  private void step(int kind) {
    int a = measure();
    int b = measure();
    int c = measure();
    int s = sort();
    int tree = tree();
    int bean = ofBean();
    int what = some(0, 6);
    switch (kind) {
      case 0 -> same(() -> x.bean(a, b, c, s), () -> model.bean(a, b, c, s), "bean", a, b, c, s);
      case 1 -> same(() -> x.setSort(bean, s), () -> model.setSort(bean, s), "setSort", bean, s);
      case 2 -> check(bean, dice.nextInt(3) > 0);
      case 3 -> {
        int most = some(1, 5);
        same(() -> x.setDepth(most), () -> model.setDepth(most), "setDepth", most);
      }
      case 4 -> {
        int many = dice.nextBoolean() ? 1 : some(1, 6);
        same(() -> x.setLeast(many), () -> model.setLeast(many), "setLeast", many);
      }
      case 5, 17, 18 -> {
        int parts = some(1, 5);
        int left = some(-1, Math.max(0, Math.min(parts, 5)) - 1);
        same(() -> x.plant(parts, left), () -> model.plant(parts, left), "plant", parts, left);
      }
      case 6 -> same(() -> x.fell(tree), () -> model.fell(tree), "fell", tree);
      case 7 -> same(() -> x.prune(tree), () -> model.prune(tree), "prune", tree);
      case 8 -> {
        boolean stands = tree >= 0 && tree < model.trees.size();
        int place = some(0, stands ? model.about(tree, 0) - 1 : 0);
        same(
            () -> x.node(tree, place, what),
            () -> model.node(tree, place, what),
            "node", tree, place, what);
      }
      case 9 -> same(() -> x.about(tree, what), () -> model.about(tree, what), "about", tree, what);
      case 10 -> {
        int of = some(0, 4);
        same(() -> x.told(bean, of), () -> model.told(bean, of), "told", bean, of);
      }
      case 11 -> same(() -> x.says(tree, a, b, c), () -> model.says(tree, a, b, c), "says", tree, a, b, c);
      case 12 -> same(() -> x.vote(a, b, c), () -> model.vote(a, b, c), "vote", a, b, c);
      case 13 -> same(() -> x.count(what), () -> model.count(what), "count", what);
      case 14 -> {
        int measure = some(0, 2);
        int of = some(0, 1);
        same(() -> x.gain(measure, a, of), () -> model.gain(measure, a, of), "gain", measure, a, of);
      }
      case 15 -> {
        int of = some(0, 1);
        same(() -> x.best(of), () -> model.best(of), "best", of);
      }
      case 16 -> {
        int most = some(1, 5);
        int many = some(1, 6);
        int of = some(0, 2);
        same(() -> x.would(most, many, of), () -> model.would(most, many, of), "would", most, many, of);
      }
      default -> {
        same(x::advise, model::advise, "advise");
        same(
            () -> Double.doubleToLongBits(x.mean()),
            () -> Double.doubleToLongBits(model.mean()),
            "mean");
      }
    }
  }

  private void check(int bean, boolean is) {
    same(() -> x.check(bean, is) ? 1 : 0, () -> model.check(bean, is), "check", bean, is ? 1 : 0);
  }

  private static Object outcome(Due.Call made) {
    try {
      return made.answer();
    } catch (RuntimeException e) {
      return e.getClass().getSimpleName();
    }
  }

  private void same(Due.Call got, Due.Call want, String name, int... with) {
    StringBuilder told = new StringBuilder(name).append(" of");
    for (int number : with) {
      told.append(" ").append(number);
    }
    call = told.toString();
    Object due = outcome(want);
    Object answered = outcome(got);
    Due.isTrue("run " + run + ": " + call + ": " + answered + ", due is " + due, due.equals(answered));
  }
}
