import java.util.ArrayList;
import java.util.List;
import java.util.Set;

/**
 * Runs of calls that are written as lines: a name, its arguments, "->" and the answer that is due;
 * IOOBE, IAE and ISE for the exceptions. Each run is made on a new keeper and on a new plain model;
 * and of each call that is refused it is asked whether the keeper is as it was ahead of it.
 */
public final class ScriptHelp {
  /** What one object answers; what later calls answer is free. */
  public static final int MOST_CALLS = 512;

  private static final Set<String> CHANGES = Set.of("paper", "price", "count", "free", "split", "pay", "rights",
      "spin", "merge", "next", "index", "tax", "part", "review", "fund", "make", "take", "trade", "lend", "undo",
      "knock");
  private static final Set<String> LET = Set.of("make", "take", "trade");
  private static final Set<String> THROWN = Set.of("IOOBE", "IAE", "ISE");

  private static int wrong;
  private static int lines;

  private ScriptHelp() {
  }

  public static void check(int promise, String... script) {
    check("promise " + promise, script);
  }

  public static void check(String label, String... script) {
    run(label, new Indexkeeper(), script);
    run(label, new PlainHelp(), script);
    checkRefused(label, script);
  }

  public static void due(int promise, String what, Object got, Object want) {
    due("promise " + promise, what, got, want);
  }

  public static void due(String label, String what, Object got, Object want) {
    lines++;
    if (!want.equals(got)) {
      wrong++;
      System.out.println(label + ": " + what + " answered " + got + ", due is " + want);
    }
  }

  /** Ends the test. */
  public static void close(String name) {
    System.out.println(name + ": " + lines + " answers, " + wrong + " wrong");
    if (wrong > 0) {
      System.exit(1);
    }
  }

  /** One call that is written as a line, without an answer. */
  public static String ask(Object on, String call) {
    String[] words = call.trim().split(" +");
    return shorten(CallHelp.ask(on, words[0], arguments(words)));
  }

  private static String callOf(String line) {
    int arrow = line.indexOf("->");
    if (arrow < 0) {
      throw new IllegalArgumentException(line);
    }
    return line.substring(0, arrow).trim();
  }

  private static String dueOf(String line) {
    String want = line.substring(line.indexOf("->") + 2);
    return want.startsWith(" ") ? want.substring(1) : want;
  }

  private static String nameOf(String line) {
    return callOf(line).split(" ")[0];
  }

  private static void run(String label, Object on, String... script) {
    if (script.length > MOST_CALLS) {
      throw new IllegalArgumentException(label + " is too long");
    }
    for (String line : script) {
      due(label, on.getClass().getSimpleName() + " " + callOf(line), ask(on, callOf(line)), dueOf(line));
    }
  }

  private static boolean isRefused(String line) {
    return THROWN.contains(dueOf(line)) || LET.contains(nameOf(line)) && dueOf(line).equals("-9");
  }

  /** Behind each call that is refused nothing is other than it is without this call. */
  private static void checkRefused(String label, String... script) {
    List<String> done = new ArrayList<>();
    List<String> without = null;
    for (String line : script) {
      if (isRefused(line)) {
        without = without == null ? pictureBehind(done, null) : without;
        due(label, "the keeper behind " + callOf(line), pictureBehind(done, callOf(line)), without);
      } else if (CHANGES.contains(nameOf(line))) {
        done.add(callOf(line));
        without = null;
      }
    }
  }

  private static List<String> pictureBehind(List<String> done, String last) {
    Indexkeeper x = new Indexkeeper();
    for (String call : done) {
      ask(x, call);
    }
    if (last != null) {
      ask(x, last);
    }
    return picture(x, MOST_CALLS - done.size() - 1);
  }

  /** What the keeper answers, ahead of each of the steps back that it can make and behind the last one. */
  public static List<String> picture(Indexkeeper x, int mostCalls) {
    List<String> all = new ArrayList<>();
    int days = x.house(0) + 1;
    int papers = x.house(1);
    int indexes = x.house(2);
    int steps = x.house(4);
    // what the steps back will need is kept for them
    int most = mostCalls - 4 - 4 * (steps + 1);
    look(x, all);
    for (int i = 0; i < indexes && all.size() < most; i++) {
      all.add(x.members(i));
      for (int p = 0; p < papers && all.size() < most; p++) {
        all.add(x.weight(i, p));
      }
    }
    for (int p = 0; p < papers; p++) {
      for (int day = 0; day < days && all.size() < most; day++) {
        all.add(x.priceOn(p, day) + " on " + day);
      }
    }
    for (int i = 0; i < steps; i++) {
      all.add("steps " + x.undo());
      look(x, all);
    }
    return all;
  }

  private static void look(Indexkeeper x, List<String> all) {
    all.add("digest " + x.digest());
    all.add("changed " + x.changed());
  }

  private static Object[] arguments(String[] words) {
    List<Object> all = new ArrayList<>();
    for (int i = 1; i < words.length; i++) {
      boolean isTruth = words[i].equals("true") || words[i].equals("false");
      all.add(isTruth ? (Object) Boolean.valueOf(words[i]) : (Object) Integer.valueOf(words[i]));
    }
    return all.toArray();
  }

  private static String shorten(String answer) {
    switch (answer) {
      case "throws.IndexOutOfBoundsException":
        return "IOOBE";
      case "throws.IllegalArgumentException":
        return "IAE";
      case "throws.IllegalStateException":
        return "ISE";
      default:
        return answer;
    }
  }
}
