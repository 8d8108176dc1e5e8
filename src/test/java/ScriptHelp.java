import java.util.ArrayList;
import java.util.List;

/**
 * Runs of calls that are written as lines: a name, its arguments, "->" and the answer that is due;
 * IOOBE, IAE and ISE for the exceptions. Each run is made on a new keeper and on a new plain model.
 */
public final class ScriptHelp {
  private static int wrong;
  private static int lines;

  private ScriptHelp() {
  }

  public static void check(int promise, String... script) {
    run(promise, new Indexkeeper(), script);
    run(promise, new PlainHelp(), script);
  }

  public static void due(int promise, String what, Object got, Object want) {
    lines++;
    if (!want.equals(got)) {
      wrong++;
      System.out.println("promise " + promise + ": " + what + " answered " + got + ", due is " + want);
    }
  }

  /** Ends the test. */
  public static void close(String name) {
    System.out.println(name + ": " + lines + " answers, " + wrong + " wrong");
    if (wrong > 0) {
      System.exit(1);
    }
  }

  private static void run(int promise, Object on, String... script) {
    for (String line : script) {
      int arrow = line.indexOf("->");
      if (arrow < 0) {
        throw new IllegalArgumentException(line);
      }
      String[] words = line.substring(0, arrow).trim().split(" +");
      String want = line.substring(arrow + 2);
      want = want.startsWith(" ") ? want.substring(1) : want;
      String got = CallHelp.ask(on, words[0], arguments(words));
      due(promise, on.getClass().getSimpleName() + " " + line.substring(0, arrow).trim(), shorten(got), want);
    }
  }

  private static Object[] arguments(String[] words) {
    List<Object> all = new ArrayList<>();
    for (int i = 1; i < words.length; i++) {
      boolean isTruth = words[i].equals("true") || words[i].equals("false");
      all.add(isTruth ? (Object) Boolean.valueOf(words[i]) : (Object) Integer.valueOf(words[i]));
    }
    return all.toArray();
  }

  private static String shorten(String answer) {
    switch (answer) {
      case "throws.IndexOutOfBoundsException":
        return "IOOBE";
      case "throws.IllegalArgumentException":
        return "IAE";
      case "throws.IllegalStateException":
        return "ISE";
      default:
        return answer;
    }
  }
}
