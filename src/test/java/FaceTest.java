import java.io.IOException;
import java.lang.reflect.Constructor;
import java.lang.reflect.Method;
import java.lang.reflect.Modifier;
import java.nio.file.Files;
import java.nio.file.Path;
import java.util.ArrayList;
import java.util.Arrays;
import java.util.List;
import java.util.TreeSet;

/** The public face is the one that the document shows, and nothing else. */
public final class FaceTest {
  private FaceTest() {
  }

  public static void main(String[] args) throws IOException {
    TreeSet<String> due = new TreeSet<>();
    boolean isFace = false;
    for (String line : Files.readAllLines(Path.of("../shared/DOC.md"))) {
      isFace = isFace ? !line.startsWith("```") : line.startsWith("```java");
      if (isFace && line.startsWith("    public")) {
        due.add(plain(line.trim()));
      }
    }
    TreeSet<String> is = new TreeSet<>();
    for (Constructor<?> c : Indexkeeper.class.getDeclaredConstructors()) {
      is.add(Modifier.toString(c.getModifiers()) + " Indexkeeper(" + types(c.getParameterTypes()) + ")");
    }
    List<String> hidden = new ArrayList<>();
    for (Method m : Indexkeeper.class.getDeclaredMethods()) {
      if (Modifier.isPrivate(m.getModifiers())) {
        hidden.add(m.getName());
      } else if (!m.isSynthetic()) {
        String thrown = types(m.getExceptionTypes());
        is.add(Modifier.toString(m.getModifiers()) + " " + m.getReturnType().getSimpleName() + " " + m.getName()
            + "(" + types(m.getParameterTypes()) + ")" + (thrown.isEmpty() ? "" : " throws " + thrown));
      }
    }
    ScriptHelp.due(0, "the face", is, due);
    ScriptHelp.due(0, "the number of calls in the face", due.size(), 49);
    ScriptHelp.due(0, "the class", Modifier.toString(Indexkeeper.class.getModifiers()), "public final");
    ScriptHelp.due(0, "the fields of the face", Indexkeeper.class.getFields().length, 0);
    for (Method m : Indexkeeper.class.getMethods()) {
      ScriptHelp.due(0, "a hidden method " + m.getName(), hidden.contains(m.getName()), false);
    }
    for (Class<?> c : Indexkeeper.class.getDeclaredClasses()) {
      int how = c.getModifiers();
      boolean isInside = !Modifier.isPublic(how) && !Modifier.isProtected(how) && Modifier.isStatic(how);
      ScriptHelp.due(0, "whether " + c.getSimpleName() + " is inside", isInside, true);
    }
    ScriptHelp.close("face");
  }

  /** A line of the document without the names of parameters. */
  private static String plain(String line) {
    String bare = line.replace(";", "");
    int open = bare.indexOf('(');
    int shut = bare.indexOf(')');
    String inside = bare.substring(open + 1, shut).replaceAll("(\\w+) \\w+", "$1");
    return bare.substring(0, open + 1) + inside + bare.substring(shut);
  }

  private static String types(Class<?>[] all) {
    return String.join(", ", Arrays.stream(all).map(Class::getSimpleName).toArray(String[]::new));
  }
}
