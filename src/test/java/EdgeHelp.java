import java.io.IOException;
import java.io.UncheckedIOException;
import java.nio.file.Files;
import java.nio.file.Path;
import java.util.ArrayList;
import java.util.List;
import java.util.TreeMap;

/**
 * Runs of calls behind a sentence of the document that names a boundary case. The sentence is quoted,
 * and must stand in the document; close() tells which sentences of a promise have no run.
 */
public final class EdgeHelp {
  /** Section 0 is what stands ahead of the promises. */
  private static final TreeMap<Integer, List<String>> SECTIONS = read();
  private static final List<String> QUOTED = new ArrayList<>();

  private EdgeHelp() {
  }

  private static TreeMap<Integer, List<String>> read() {
    TreeMap<Integer, List<String>> all = new TreeMap<>();
    int section = 0;
    try {
      for (String line : Files.readAllLines(Path.of("../shared/DOC.md"))) {
        if (line.startsWith("## Promise ")) {
          section = Integer.parseInt(line.substring(11, line.indexOf(':')));
        }
        if (!line.isBlank()) {
          all.computeIfAbsent(section, s -> new ArrayList<>()).add(plain(line));
        }
      }
    } catch (IOException e) {
      throw new UncheckedIOException(e);
    }
    return all;
  }

  private static String plain(String line) {
    return line.replace("`", "").replaceAll("\\s+", " ").trim();
  }

  /** A run of calls for a sentence of a promise; of the promise 0 for what stands ahead of them all. */
  public static void edge(int promise, String sentence, String... script) {
    String label = quote(promise, sentence);
    ScriptHelp.check(label, script);
  }

  /** Notes that a sentence has a test, which is made elsewhere; answers how the test is called. */
  public static String quote(int promise, String sentence) {
    String label = (promise == 0 ? "description" : "promise " + promise) + " \"" + sentence + "\"";
    boolean isThere = false;
    for (String line : SECTIONS.getOrDefault(promise, List.of())) {
      isThere = isThere || line.contains(plain(sentence));
    }
    ScriptHelp.due(label, "whether the document says so", isThere, true);
    QUOTED.add(promise + " " + plain(sentence));
    return label;
  }

  /** Ends the test; all that the promises from one to another answer and throw must have been quoted. */
  public static void close(String name, int... promises) {
    for (int promise : promises) {
      for (String line : SECTIONS.getOrDefault(promise, List.of())) {
        if (line.startsWith("Returns ") || line.startsWith("Throws ")) {
          ScriptHelp.due("promise " + promise, "whether there is a run for \"" + line + "\"", isQuoted(promise, line), true);
        }
      }
    }
    ScriptHelp.close(name);
  }

  private static boolean isQuoted(int promise, String line) {
    for (String quoted : QUOTED) {
      int space = quoted.indexOf(' ');
      if (Integer.parseInt(quoted.substring(0, space)) == promise && line.contains(quoted.substring(space + 1))) {
        return true;
      }
    }
    return false;
  }

  /** A paper at 1000, of which a fund holds as many as it has units, and no coins; today is 1. */
  public static String[] shares(int units) {
    return new String[] {
      "paper 1000 100 0 1000 -> 0", "index 0 1 0 100 -1 true -> 0", "fund 0 0 0 1 -> 0",
      "make 0 " + units + " -> " + units, "review 0 -> 1", "next -> 1", "trade 0 -> 1", "held 0 0 -> " + units,
      "money 0 0 -> 0",
    };
  }

  /** Runs behind one another. */
  public static String[] join(String[] start, String... more) {
    String[] all = new String[start.length + more.length];
    System.arraycopy(start, 0, all, 0, start.length);
    System.arraycopy(more, 0, all, start.length, more.length);
    return all;
  }

  /** A line as often as told. */
  public static String[] times(int n, String line) {
    String[] all = new String[n];
    java.util.Arrays.fill(all, line);
    return all;
  }
}
