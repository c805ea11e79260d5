import java.io.IOException;
import java.lang.reflect.InvocationTargetException;
import java.lang.reflect.Method;
import java.lang.reflect.Modifier;
import java.nio.charset.StandardCharsets;
import java.nio.file.Files;
import java.nio.file.Path;
import java.util.List;
import java.util.regex.Matcher;
import java.util.regex.Pattern;

/** What README.md tells of the calls is what the class does: its example is run, its tables are read. */
public final class ReadmeTest {
  private static final Pattern EXAMPLE = Pattern.compile("groves\\.(\\w+)\\((.*?)\\); +// ([^: ]+): .*");
  private static final Pattern ROW = Pattern.compile("\\| `(\\w+)\\((.*?)\\)` \\|.*\\|(.*)\\|");
  private static final Pattern THROWN = Pattern.compile("`(\\w+Exception)`");

  public static void main(String[] args) throws IOException {
    List<String> lines = Files.readAllLines(Path.of("README.md"), StandardCharsets.UTF_8);
    example(lines);
    tables(lines);
    rest(String.join("\n", lines));
    Due.end();
  }

  private static void example(List<String> lines) {
    BeanGroves groves = new BeanGroves();
    int calls = 0;
    for (String line : lines) {
      Matcher told = EXAMPLE.matcher(line);
      if (told.matches()) {
        String answer = answer(groves, told.group(1), told.group(2));
        Due.isTrue("README tells '" + line + "' but it is " + answer, answer.equals(told.group(3)));
        calls++;
      } else {
        Due.isTrue("README has a call without its answer: " + line, !line.startsWith("groves."));
      }
    }
    Due.isTrue("README has an example", calls > 10);
  }

  /** What the call answers as a text, or the name of what it throws. */
  private static String answer(BeanGroves groves, String name, String arguments) {
    Method called = called(name);
    if (called == null) {
      return "no call of the face";
    }
    String[] texts = arguments.isEmpty() ? new String[0] : arguments.split(", ");
    Object[] given = new Object[texts.length];
    for (int i = 0; i < texts.length; i++) {
      boolean isWhether = texts[i].equals("true") || texts[i].equals("false");
      given[i] = isWhether ? (Object) Boolean.valueOf(texts[i]) : (Object) Integer.valueOf(texts[i]);
    }
    try {
      return String.valueOf(called.invoke(groves, given));
    } catch (InvocationTargetException e) {
      return e.getCause().getClass().getSimpleName();
    } catch (ReflectiveOperationException | IllegalArgumentException e) {
      return "not to be called so: " + e;
    }
  }

  private static Method called(String name) {
    for (Method method : BeanGroves.class.getDeclaredMethods()) {
      if (Modifier.isPublic(method.getModifiers()) && method.getName().equals(name)) {
        return method;
      }
    }
    return null;
  }

  /** Each call of the face has one row, with its parameters and its exceptions in their order. */
  private static void tables(List<String> lines) {
    int rows = 0;
    for (String line : lines) {
      Matcher row = ROW.matcher(line);
      if (row.matches()) {
        rows++;
        Method told = called(row.group(1));
        Due.isTrue("README tells a call of the face: " + line, told != null);
        if (told != null) {
          int parameters = row.group(2).isEmpty() ? 0 : row.group(2).split(", ").length;
          Due.is("parameters in README of " + told, parameters, told.getParameterCount());
          String due = thrownBy(told);
          String thrown = thrownIn(row.group(3));
          Due.isTrue("README tells for " + told + " " + thrown, thrown.equals(due));
        }
      }
    }
    Due.is("calls in README's tables", rows, calls());
    for (Method method : BeanGroves.class.getDeclaredMethods()) {
      if (Modifier.isPublic(method.getModifiers())) {
        String head = "| `" + method.getName() + "(";
        Due.is("rows with " + head, lines.stream().filter(l -> l.startsWith(head)).count(), 1);
      }
    }
  }

  private static int calls() {
    int many = 0;
    for (Method method : BeanGroves.class.getDeclaredMethods()) {
      many += Modifier.isPublic(method.getModifiers()) ? 1 : 0;
    }
    return many;
  }

  private static String thrownBy(Method method) {
    StringBuilder names = new StringBuilder();
    for (Class<?> thrown : method.getExceptionTypes()) {
      names.append(thrown.getSimpleName()).append(" ");
    }
    return names.toString();
  }

  private static String thrownIn(String cell) {
    StringBuilder names = new StringBuilder();
    Matcher thrown = THROWN.matcher(cell);
    while (thrown.find()) {
      names.append(thrown.group(1)).append(" ");
    }
    return names.toString();
  }

  private static void rest(String text) throws IOException {
    Due.isTrue("README tells how an object is made", text.contains("`new BeanGroves()`"));
    Due.isTrue("README tells for how many calls", text.contains("at most 512 calls"));
    Due.isTrue("README tells how tests are run", text.contains("    .ci/run\n"));
    try (var files = Files.newDirectoryStream(Path.of("src/test/java"), "*Test.java")) {
      for (Path file : files) {
        String name = file.getFileName().toString().replace(".java", "");
        Due.isTrue("README tells of " + name, text.contains("- `" + name + "`:"));
      }
    }
  }
}
