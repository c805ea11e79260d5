import java.io.IOException;
import java.lang.reflect.Constructor;
import java.lang.reflect.Field;
import java.lang.reflect.Method;
import java.lang.reflect.Modifier;
import java.nio.charset.StandardCharsets;
import java.nio.file.Files;
import java.nio.file.Path;
import java.util.Set;
import java.util.TreeSet;
import java.util.regex.Matcher;
import java.util.regex.Pattern;

/** The face is the one that the document gives, and the source keeps out of what LANGUAGE.md rules out. */
public final class FaceTest {
  private static final String I = "java.lang.IllegalArgumentException";
  private static final String X = "java.lang.IndexOutOfBoundsException";
  private static final String S = "java.lang.IllegalStateException";

  private static final Set<String> FACE =
      Set.of(
          "int bean(int,int,int,int) " + I + " " + S,
          "int setSort(int,int) " + X + " " + I,
          "boolean check(int,boolean) " + X,
          "int setDepth(int) " + I,
          "int setLeast(int) " + I,
          "int plant(int,int) " + I + " " + S,
          "int fell(int) " + X,
          "int prune(int) " + X,
          "int node(int,int,int) " + X,
          "int about(int,int) " + X,
          "int told(int,int) " + X,
          "int says(int,int,int,int) " + X + " " + I,
          "int vote(int,int,int) " + I,
          "int count(int) " + X,
          "int gain(int,int,int) " + X + " " + I,
          "int best(int) " + X,
          "int would(int,int,int) " + I + " " + X,
          "int advise()",
          "double mean()",
          "long digest()");

  private static final String[] RULED_OUT = {
    "import ", "package ", "->", "::", "catch", "try ", "finally", "synchronized", "assert", "native",
    "Exact", "System.", "Thread", "Object", "hashCode", "toString", "record ", "@SuppressWarnings",
  };

  /** Beside its own classes: all that the class uses of the library, and the exceptions of the face. */
  private static final Set<String> NAMES =
      Set.of(
          "BeanGroves", "Beans", "Tree", "Integer", "Math",
          "IllegalArgumentException", "IndexOutOfBoundsException", "IllegalStateException");

  private static final Set<String> LIBRARY = Set.of("Integer.bitCount", "Math.max");

  private static final int MOST_LINES = 60;

  public static void main(String[] args) throws IOException {
    face();
    classes();
    String text = Files.readString(Path.of("src/main/java/BeanGroves.java"), StandardCharsets.UTF_8);
    source(text);
    String code = withoutComments(text);
    names(code);
    objects(code);
    lengths(code);
    Due.end();
  }

  private static void face() {
    Class<?> c = BeanGroves.class;
    Due.isTrue("the class is public", Modifier.isPublic(c.getModifiers()));
    Due.isTrue("the class is final", Modifier.isFinal(c.getModifiers()));
    Constructor<?>[] made = c.getDeclaredConstructors();
    Due.is("constructors", made.length, 1);
    Due.isTrue("the constructor is public", Modifier.isPublic(made[0].getModifiers()));
    Due.is("its parameters", made[0].getParameterCount(), 0);
    Due.is("its exceptions", made[0].getExceptionTypes().length, 0);
    Set<String> seen = new TreeSet<>();
    Set<String> names = new TreeSet<>();
    for (Method m : c.getDeclaredMethods()) {
      if (Modifier.isPublic(m.getModifiers())) {
        seen.add(signature(m));
        names.add(m.getName());
        Due.isTrue(m + " is no static one", !Modifier.isStatic(m.getModifiers()));
      }
    }
    Due.isTrue("the face is " + new TreeSet<>(FACE) + "\nbut was " + seen, seen.equals(FACE));
    for (Method m : c.getDeclaredMethods()) {
      if (!m.isSynthetic() && !Modifier.isPublic(m.getModifiers())) {
        Due.isTrue(m + " is private", Modifier.isPrivate(m.getModifiers()));
        Due.isTrue(m + " has a name of its own", !names.contains(m.getName()));
      }
    }
    for (Field f : c.getDeclaredFields()) {
      Due.isTrue(f + " is private", Modifier.isPrivate(f.getModifiers()));
    }
  }

  private static String signature(Method m) {
    StringBuilder text = new StringBuilder(m.getReturnType() + " " + m.getName() + "(");
    for (int i = 0; i < m.getParameterCount(); i++) {
      text.append(i == 0 ? "" : ",").append(m.getParameterTypes()[i]);
    }
    text.append(")");
    for (Class<?> thrown : m.getExceptionTypes()) {
      text.append(" ").append(thrown.getName());
    }
    return text.toString();
  }

  private static void classes() {
    Class<?>[] inside = BeanGroves.class.getDeclaredClasses();
    Due.isTrue("at most twelve classes", inside.length < 12);
    staticFields(BeanGroves.class);
    for (Class<?> c : inside) {
      int m = c.getModifiers();
      Due.isTrue(c + " is static", Modifier.isStatic(m));
      Due.isTrue(c + " is hidden", !Modifier.isPublic(m) && !Modifier.isProtected(m));
      staticFields(c);
    }
  }

  private static void staticFields(Class<?> c) {
    int own = 0;
    for (Field f : c.getDeclaredFields()) {
      boolean isStatic = Modifier.isStatic(f.getModifiers());
      own += isStatic ? 0 : 1;
      Due.isTrue(f + " is final", !isStatic || Modifier.isFinal(f.getModifiers()));
      Due.isTrue(f + " is a number, if it is static", !isStatic || f.getType().isPrimitive());
      Due.isTrue(f + " is of an allowed type", isAllowed(f.getType()));
    }
    Due.isTrue(c + " has at most twenty fields", own <= 20);
    for (Method m : c.getDeclaredMethods()) {
      Due.isTrue(m + " takes at most seven", m.getParameterCount() <= 7);
    }
  }

  private static boolean isAllowed(Class<?> type) {
    boolean isOwn = type.getNestHost() == BeanGroves.class;
    if (!type.isArray()) {
      return type.isPrimitive() || isOwn;
    }
    Class<?> part = type.getComponentType();
    boolean isTable = part.isArray() && part.getComponentType().isPrimitive();
    return part.isPrimitive() || isTable || part.getNestHost() == BeanGroves.class && !part.isArray();
  }

  private static void source(String text) {
    for (String word : RULED_OUT) {
      Due.isTrue("the source is without " + word, !text.contains(word));
    }
    Due.isTrue("its signs are 1 to 127", text.chars().allMatch(sign -> sign > 0 && sign < 128));
    int at = 0;
    for (String head : new String[] {"beans", "trees", "what there is", "what would be"}) {
      int next = text.indexOf("// ---- " + head + "\n", at);
      Due.isTrue("the source says ---- " + head + " in its turn", next >= at);
      at = Math.max(at, next);
    }
  }

  private static String withoutComments(String text) {
    return text.replaceAll("(?s)/\\*.*?\\*/", "").replaceAll("//[^\n]*", "");
  }

  private static void names(String code) {
    String bare = code.replaceAll("\"[^\"\n]*\"", "\"\"");
    Matcher name = Pattern.compile("\\b[A-Z]\\w*[a-z]\\w*").matcher(bare);
    while (name.find()) {
      Due.isTrue("the source may use " + name.group(), NAMES.contains(name.group()));
    }
    Matcher used = Pattern.compile("\\b(?:Integer|Math)\\.\\w+").matcher(bare);
    while (used.find()) {
      Due.isTrue("the source may use " + used.group(), LIBRARY.contains(used.group()));
    }
  }

  /** Objects are made in fields and in the constructor alone, but for exceptions with a written text. */
  private static void objects(String code) {
    int trees = 0;
    for (String line : code.split("\n")) {
      if (line.contains("new ")) {
        boolean isThrown = line.matches(" +throw new \\w+Exception\\(\"[^\"]+\"\\);");
        boolean isField = line.matches(" +private final .* = new [^;]+;");
        boolean isTree = line.equals("      trees[tree] = new Tree();");
        Due.isTrue("no call makes an object: " + line, isThrown || isField || isTree);
        trees += isTree ? 1 : 0;
      }
    }
    Due.is("places where trees are made", trees, 1);
  }

  /** A method ends with the brace that stands below the first sign of its head. */
  private static void lengths(String code) {
    Pattern head = Pattern.compile("( {2,4})(?!if|for|switch|return|throw|while)\\w[^=;]*\\([^;]*");
    String end = "";
    int start = 0;
    int methods = 0;
    String[] lines = code.split("\n");
    for (int at = 0; at < lines.length; at++) {
      Matcher found = head.matcher(lines[at]);
      if (end.isEmpty() && found.matches()) {
        start = at;
        end = found.group(1) + "}";
      }
      if (!end.isEmpty() && lines[at].equals(end)) {
        Due.isTrue("not over sixty lines: " + lines[start], at - start < MOST_LINES);
        methods++;
        end = "";
      }
    }
    int due = BeanGroves.class.getDeclaredConstructors().length + methodsOf(BeanGroves.class);
    for (Class<?> c : BeanGroves.class.getDeclaredClasses()) {
      due += methodsOf(c);
    }
    Due.is("methods whose lines are counted", methods, due);
  }

  private static int methodsOf(Class<?> c) {
    int many = 0;
    for (Method m : c.getDeclaredMethods()) {
      many += m.isSynthetic() ? 0 : 1;
    }
    return many;
  }
}
