import java.io.IOException;
import java.lang.reflect.Constructor;
import java.lang.reflect.Field;
import java.lang.reflect.Method;
import java.lang.reflect.Modifier;
import java.nio.charset.StandardCharsets;
import java.nio.file.Files;
import java.nio.file.Path;
import java.util.Set;
import java.util.TreeSet;

/** The face is the one that the document gives, and the source keeps out of what LANGUAGE.md rules out. */
public final class FaceTest {
  private static final String I = "java.lang.IllegalArgumentException";
  private static final String X = "java.lang.IndexOutOfBoundsException";
  private static final String S = "java.lang.IllegalStateException";

  private static final Set<String> FACE =
      Set.of(
          "int bean(int,int,int,int) " + I + " " + S,
          "int setSort(int,int) " + X + " " + I,
          "boolean check(int,boolean) " + X,
          "int setDepth(int) " + I,
          "int setLeast(int) " + I,
          "int plant(int,int) " + I + " " + S,
          "int fell(int) " + X,
          "int prune(int) " + X,
          "int node(int,int,int) " + X,
          "int about(int,int) " + X,
          "int told(int,int) " + X,
          "int says(int,int,int,int) " + X + " " + I,
          "int vote(int,int,int) " + I,
          "int count(int) " + X,
          "int gain(int,int,int) " + X + " " + I,
          "int best(int) " + X,
          "int would(int,int,int) " + I + " " + X,
          "int advise()",
          "double mean()",
          "long digest()");

  private static final String[] RULED_OUT = {
    "import ", "package ", "->", "::", "catch", "try ", "finally", "synchronized", "assert", "native",
    "Exact", "System.", "Thread", "Object", "hashCode", "toString", "record ", "@SuppressWarnings",
  };

  public static void main(String[] args) throws IOException {
    face();
    classes();
    source();
    Due.end();
  }

  private static void face() {
    Class<?> c = BeanGroves.class;
    Due.isTrue("the class is public", Modifier.isPublic(c.getModifiers()));
    Due.isTrue("the class is final", Modifier.isFinal(c.getModifiers()));
    Constructor<?>[] made = c.getDeclaredConstructors();
    Due.is("constructors", made.length, 1);
    Due.isTrue("the constructor is public", Modifier.isPublic(made[0].getModifiers()));
    Due.is("its parameters", made[0].getParameterCount(), 0);
    Due.is("its exceptions", made[0].getExceptionTypes().length, 0);
    Set<String> seen = new TreeSet<>();
    Set<String> names = new TreeSet<>();
    for (Method m : c.getDeclaredMethods()) {
      if (Modifier.isPublic(m.getModifiers())) {
        seen.add(signature(m));
        names.add(m.getName());
        Due.isTrue(m + " is no static one", !Modifier.isStatic(m.getModifiers()));
      }
    }
    Due.isTrue("the face is " + new TreeSet<>(FACE) + "\nbut was " + seen, seen.equals(FACE));
    for (Method m : c.getDeclaredMethods()) {
      if (!m.isSynthetic() && !Modifier.isPublic(m.getModifiers())) {
        Due.isTrue(m + " is private", Modifier.isPrivate(m.getModifiers()));
        Due.isTrue(m + " has a name of its own", !names.contains(m.getName()));
      }
    }
    for (Field f : c.getDeclaredFields()) {
      Due.isTrue(f + " is private", Modifier.isPrivate(f.getModifiers()));
    }
  }

  private static String signature(Method m) {
    StringBuilder text = new StringBuilder(m.getReturnType() + " " + m.getName() + "(");
    for (int i = 0; i < m.getParameterCount(); i++) {
      text.append(i == 0 ? "" : ",").append(m.getParameterTypes()[i]);
    }
    text.append(")");
    for (Class<?> thrown : m.getExceptionTypes()) {
      text.append(" ").append(thrown.getName());
    }
    return text.toString();
  }

  private static void classes() {
    Class<?>[] inside = BeanGroves.class.getDeclaredClasses();
    Due.isTrue("at most twelve classes", inside.length < 12);
    staticFields(BeanGroves.class);
    for (Class<?> c : inside) {
      int m = c.getModifiers();
      Due.isTrue(c + " is static", Modifier.isStatic(m));
      Due.isTrue(c + " is hidden", !Modifier.isPublic(m) && !Modifier.isProtected(m));
      staticFields(c);
    }
  }

  private static void staticFields(Class<?> c) {
    int own = 0;
    for (Field f : c.getDeclaredFields()) {
      boolean isStatic = Modifier.isStatic(f.getModifiers());
      own += isStatic ? 0 : 1;
      Due.isTrue(f + " is final", !isStatic || Modifier.isFinal(f.getModifiers()));
    }
    Due.isTrue(c + " has at most twenty fields", own <= 20);
    for (Method m : c.getDeclaredMethods()) {
      Due.isTrue(m + " takes at most seven", m.getParameterCount() <= 7);
    }
  }

  private static void source() throws IOException {
    Path file = Path.of("src/main/java/BeanGroves.java");
    String text = Files.readString(file, StandardCharsets.UTF_8);
    for (String word : RULED_OUT) {
      Due.isTrue("the source is without " + word, !text.contains(word));
    }
    Due.isTrue("its signs are 1 to 127", text.chars().allMatch(sign -> sign > 0 && sign < 128));
    int at = 0;
    for (String head : new String[] {"beans", "trees", "what there is", "what would be"}) {
      int next = text.indexOf("// ---- " + head + "\n", at);
      Due.isTrue("the source says ---- " + head + " in its turn", next >= at);
      at = Math.max(at, next);
    }
  }
}
