import java.lang.reflect.InvocationTargetException;
import java.lang.reflect.Method;
import java.util.Map;
import java.util.TreeMap;

/** Counts answers that are not as due, and prints them. */
final class Due {
  interface Call {
    long answer();
  }

  private static int asked = 0;
  private static int wrong = 0;

  /** The test that runs, if it is one of those that have a name of their own. */
  private static String test = "";

  private Due() {}

  static void is(String call, long got, long want) {
    asked++;
    if (got != want) {
      fail(call + " answered " + got + ", due is " + want);
    }
  }

  static void isTrue(String what, boolean holds) {
    asked++;
    if (!holds) {
      fail(what);
    }
  }

  /** An exception of another class is wrong too, also one of a class above or below. */
  static void thrown(String call, Class<?> want, Call made) {
    asked++;
    try {
      long got = made.answer();
      fail(call + " answered " + got + ", due is " + want.getSimpleName());
    } catch (RuntimeException e) {
      if (e.getClass() != want) {
        fail(call + " threw " + e + ", due is " + want.getSimpleName());
      }
    }
  }

  static void fail(String what) {
    wrong++;
    System.out.println(test + what);
  }

  static int wrong() {
    return wrong;
  }

  /** The tests of a class, by their names: the methods whose names begin with "promise". */
  static Map<String, Method> testsOf(Class<?> of) {
    Map<String, Method> tests = new TreeMap<>();
    for (Method method : of.getDeclaredMethods()) {
      if (method.getName().startsWith("promise")) {
        tests.put(method.getName(), method);
      }
    }
    return tests;
  }

  /** One that ends by an exception, or that looks at nothing, fails. */
  static void run(String name, Method made) {
    test = name + ": ";
    int before = asked;
    try {
      made.invoke(null);
    } catch (InvocationTargetException e) {
      fail("ended by " + e.getCause());
    } catch (ReflectiveOperationException e) {
      fail("cannot be called: " + e);
    }
    if (asked == before) {
      fail("looked at nothing");
    }
    test = "";
  }

  static void end() {
    System.out.println(asked + " looked at, " + wrong + " not as due");
    if (wrong != 0) {
      System.exit(1);
    }
  }
}
