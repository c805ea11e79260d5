/** Counts answers that are not as due, and prints them. */
final class Due {
  interface Call {
    long answer();
  }

  private static int asked = 0;
  private static int wrong = 0;

  private Due() {}

  static void is(String call, long got, long want) {
    asked++;
    if (got != want) {
      fail(call + " answered " + got + ", due is " + want);
    }
  }

  static void isTrue(String what, boolean holds) {
    asked++;
    if (!holds) {
      fail(what);
    }
  }

  /** An exception of another class is wrong too, also one of a class above or below. */
  static void thrown(String call, Class<?> want, Call made) {
    asked++;
    try {
      long got = made.answer();
      fail(call + " answered " + got + ", due is " + want.getSimpleName());
    } catch (RuntimeException e) {
      if (e.getClass() != want) {
        fail(call + " threw " + e + ", due is " + want.getSimpleName());
      }
    }
  }

  static void fail(String what) {
    wrong++;
    System.out.println(what);
  }

  static int wrong() {
    return wrong;
  }

  static void end() {
    System.out.println(asked + " looked at, " + wrong + " not as due");
    if (wrong != 0) {
      System.exit(1);
    }
  }
}
