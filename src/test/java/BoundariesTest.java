import java.lang.reflect.Method;
import java.util.Map;
import java.util.TreeMap;

/** Runs every test of the boundary cases; each promise must have some. */
public final class BoundariesTest {
  private static final Class<?>[] BY_SECTION = {
    BoundariesOfBeans.class,
    BoundariesOfTrees.class,
    BoundariesOfWhatThereIs.class,
    BoundariesOfWhatWouldBe.class,
  };

  private static final int PROMISES = 21;

  public static void main(String[] args) {
    Map<String, Method> tests = new TreeMap<>();
    for (Class<?> section : BY_SECTION) {
      tests.putAll(Due.testsOf(section));
    }
    tests.forEach(Due::run);
    for (int promise = 1; promise <= PROMISES; promise++) {
      String begin = String.format("promise%02d", promise);
      boolean has = tests.keySet().stream().anyMatch(name -> name.startsWith(begin));
      Due.isTrue("there is a test of promise " + promise, has);
    }
    System.out.println(tests.size() + " tests of boundary cases");
    Due.end();
  }
}
