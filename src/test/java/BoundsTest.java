import java.util.ArrayList;
import java.util.List;

/**
 * The bounds of all arguments of all calls, from one table: the last value that is taken and the
 * first that is not, on both sides; of several exceptions the one that is named first, ahead of -9;
 * and nothing is other behind a call that is refused.
 */
public final class BoundsTest {
  /** Each call, its bounds, and good arguments; P, I and F stand for numbers of things. */
  private static final String[][] CALLS = {
    {"paper", "1..99999 1..100 0..3 1..99999", "5 6 2 7"},
    {"price", "P 1..3 1..99999", "1 2 7"},
    {"count", "P 1..99999", "1 7"},
    {"free", "P 1..100", "1 7"},
    {"split", "P 1..20 1..20", "1 3 2"},
    {"pay", "P 1..99999", "1 7"},
    {"rights", "P 1..20 1..20 1..99999", "1 3 2 7"},
    {"spin", "P 1..20 1..20 1..99999", "1 3 2 7"},
    {"merge", "P P 1..20 1..20", "1 2 3 2"},
    {"next", "", ""},
    {"index", "0..3 1..8 0..3 10..100 -1..3 b", "1 2 1 50 2 true"},
    {"tax", "I 0..100", "1 7"},
    {"part", "I -1..0", "1 0"},
    {"review", "I", "1"},
    {"fund", "I 0..999 0..8 1..100", "1 7 2 3"},
    {"make", "F 1..9999", "1 7"},
    {"take", "F 1..9999", "1 7"},
    {"trade", "F", "0"},
    {"lend", "F P 0..100", "1 1 7"},
    {"ofPaper", "P 0..6", "1 2"},
    {"priceOn", "P 0..3", "1 2"},
    {"size", "P", "1"},
    {"votes", "P b", "1 true"},
    {"rank", "I P", "1 1"},
    {"ofIndex", "I 0..11", "1 2"},
    {"level", "I 0..3", "1 2"},
    {"members", "I", "1"},
    {"why", "I", "1"},
    {"weight", "I P", "1 1"},
    {"isCut", "I P", "1 1"},
    {"part10000", "I P", "1 1"},
    {"common", "I I", "1 0"},
    {"growth", "I 0..3 0..3", "1 1 2"},
    {"report", "I", "1"},
    {"changed", "", ""},
    {"ofFund", "F 0..8", "1 2"},
    {"money", "F 0..2", "1 1"},
    {"held", "F P", "1 1"},
    {"unit", "F", "1"},
    {"would", "F", "1"},
    {"error", "F", "1"},
    {"gain", "F 1..999999", "1 7"},
    {"collateral", "F", "1"},
    {"undo", "", ""},
    {"house", "0..7", "2"},
    {"knock", "", ""},
    {"isSound", "", ""},
    {"digest", "", ""},
  };

  /** Three papers, two indexes and two funds; the paper 1 came on the DAY 1; today is 3. */
  private static final String[] RICH = {
    "paper 1000 50 0 10", "next", "paper 500 100 1 30", "paper 70 100 2 20", "index 0 2 1 60 -1 true",
    "index 2 2 0 60 -1 false", "fund 0 300 0 3", "fund 1 0 1 1", "make 0 50", "make 1 9999", "make 1 9999", "tax 0 10", "review 0", "review 1", "next", "trade 0", "trade 1", "lend 0 0 20", "next",
    "price 0 3 11", "pay 0 3", "knock",
  };

  /** What is put behind the rich start, so that a call is refused for what there is. */
  private static final String[][] REFUSED = {
    {"paper 5 6 2 7", "ISE", "spin 0 1 1 1", "spin 0 1 1 1", "spin 0 1 1 1", "spin 0 1 1 1", "spin 0 1 1 1",
        "spin 0 1 1 1", "paper 1 1 0 1"},
    {"count 1 7", "ISE", "merge 1 0 1 1"},
    {"free 1 7", "ISE", "merge 1 0 1 1"},
    {"split 1 3 2", "ISE", "merge 1 0 1 1"},
    {"pay 1 7", "ISE", "merge 1 0 1 1"},
    {"rights 1 3 2 7", "ISE", "merge 1 0 1 1"},
    {"spin 1 3 2 7", "ISE", "merge 1 0 1 1"},
    {"spin 1 3 2 7", "ISE", "spin 0 1 1 1", "spin 0 1 1 1", "spin 0 1 1 1", "spin 0 1 1 1", "spin 0 1 1 1",
        "spin 0 1 1 1", "paper 1 1 0 1"},
    {"merge 1 2 3 2", "ISE", "merge 1 0 1 1"},
    {"merge 1 2 3 2", "ISE", "merge 2 0 1 1"},
    {"index 1 2 1 50 2 true", "ISE", "index 0 1 0 10 -1 true", "index 0 1 0 10 -1 true"},
    {"fund 1 7 2 3", "ISE", "fund 0 0 0 1"},
    {"make 1 7", "-9", "next", "rights 0 20 1 99999", "rights 1 20 1 99999", "rights 2 20 1 99999"},
    {"make 1 7", "-9", "make 1 9999", "make 1 9999", "make 1 9999", "make 1 9999", "make 1 9999", "make 1 9999",
        "make 1 9999", "make 1 9999", "make 1 3"},
    {"take 1 7", "-9", "next", "rights 0 20 1 99999", "rights 1 20 1 99999", "rights 2 20 1 99999"},
    {"take 0 51", "-9", "count 0 1"},
    {"trade 2", "-9", "index 0 1 0 10 -1 true", "fund 2 0 0 1"},
  };

  private static final int[] THINGS = {3, 2, 2};
  private static String[] start = RICH;
  private static int papers;
  private static int funds;
  private static List<String> picture;
  private static String label;

  private BoundsTest() {
  }

  public static void main(String[] args) {
    for (String[] call : CALLS) {
      start = RICH;
      papers = THINGS[0];
      funds = THINGS[2];
      picture = null;
      label = "bounds of " + call[0];
      taken(call);
      notTaken(call[0], call[1].isEmpty() ? new String[0] : call[1].split(" "), call[2].split(" "));
    }
    for (String[] refused : REFUSED) {
      start = EdgeHelp.join(RICH, java.util.Arrays.copyOfRange(refused, 2, refused.length));
      Indexkeeper x = begin();
      papers = x.house(1);
      funds = x.house(3);
      picture = null;
      label = "bounds of " + refused[0] + " where it is refused";
      refuse(refused[0], refused[1]);
      String[] words = refused[0].split(" ");
      for (String[] call : CALLS) {
        if (call[0].equals(words[0])) {
          notTaken(call[0], call[1].split(" "), java.util.Arrays.copyOfRange(words, 1, words.length));
        }
      }
    }
    merges();
    ScriptHelp.close("bounds");
  }

  private static Indexkeeper begin() {
    Indexkeeper x = new Indexkeeper();
    for (String call : start) {
      ScriptHelp.ask(x, call);
    }
    return x;
  }

  private static int least(String bound) {
    return bound.contains("..") ? Integer.parseInt(bound.substring(0, bound.indexOf(".."))) : 0;
  }

  private static int most(String bound) {
    switch (bound) {
      case "P":
        return papers - 1;
      case "I":
        return indexes() - 1;
      case "F":
        return funds - 1;
      default:
        return Integer.parseInt(bound.substring(bound.indexOf("..") + 2));
    }
  }

  private static int indexes() {
    return begin().house(2);
  }

  private static String with(String name, String[] good, int at, long value, int at2, long value2) {
    StringBuilder all = new StringBuilder(name);
    for (int i = 0; i < good.length; i++) {
      all.append(' ').append(i == at ? "" + value : i == at2 ? "" + value2 : good[i]);
    }
    return all.toString();
  }

  // ---- what is taken

  /** The last values that are taken, on both sides. */
  private static void taken(String[] call) {
    String[] bounds = call[1].isEmpty() ? new String[0] : call[1].split(" ");
    String[] good = call[2].isEmpty() ? new String[0] : call[2].split(" ");
    take(with(call[0], good, -1, 0, -1, 0));
    for (int i = 0; i < bounds.length; i++) {
      if (!bounds[i].equals("b")) {
        take(with(call[0], good, i, least(bounds[i]), -1, 0));
        take(with(call[0], good, i, most(bounds[i]), -1, 0));
      }
    }
  }

  /** A call that answers what the plain model answers, and no exception for its arguments. */
  private static void take(String call) {
    Indexkeeper x = begin();
    PlainHelp plain = new PlainHelp();
    for (String line : start) {
      ScriptHelp.ask(plain, line);
    }
    String got = ScriptHelp.ask(x, call);
    // with such a number a merge is one of a paper with itself, and an index a part of itself
    boolean isOwn = call.startsWith("merge 2 2") || call.startsWith("merge 1 1") || call.startsWith("part 0 0");
    if (!isOwn) {
      ScriptHelp.due(label, "whether " + call + " is taken", got.equals("IAE") || got.equals("IOOBE"), false);
    }
    ScriptHelp.due(label, call, got, ScriptHelp.ask(plain, call));
    ScriptHelp.due(label, "digest behind " + call, "" + x.digest(), ScriptHelp.ask(plain, "digest"));
  }

  // ---- what is not taken

  private static void notTaken(String name, String[] bounds, String[] good) {
    for (int i = 0; i < bounds.length; i++) {
      if (bounds[i].equals("b")) {
        continue;
      }
      for (long bad : bad(bounds[i])) {
        refuse(with(name, good, i, bad, -1, 0), thrown(bounds[i], "9..9"));
        for (int j = i + 1; j < bounds.length; j++) {
          if (!bounds[j].equals("b")) {
            refuse(with(name, good, i, bad, j, bad(bounds[j])[0]), thrown(bounds[i], bounds[j]));
            refuse(with(name, good, i, bad, j, bad(bounds[j])[1]), thrown(bounds[i], bounds[j]));
          }
        }
      }
    }
  }

  /** The first values that are not taken, and the last ones that there are. */
  private static long[] bad(String bound) {
    return new long[] {least(bound) - 1, most(bound) + 1, Integer.MIN_VALUE, Integer.MAX_VALUE};
  }

  private static String thrown(String one, String two) {
    return "PIF".contains(one) || "PIF".contains(two) ? "IOOBE" : "IAE";
  }

  private static void refuse(String call, String due) {
    if (picture == null) {
      picture = ScriptHelp.picture(begin(), ScriptHelp.MOST_CALLS - start.length - 1);
    }
    Indexkeeper x = begin();
    ScriptHelp.due(label, call, ScriptHelp.ask(x, call), due);
    ScriptHelp.due(label, "the keeper behind " + call,
        ScriptHelp.picture(x, ScriptHelp.MOST_CALLS - start.length - 1), picture);
  }

  /** A merge of a paper with itself: behind the number of a paper, ahead of one that is GONE. */
  private static void merges() {
    start = EdgeHelp.join(RICH, "merge 1 0 1 1");
    picture = null;
    label = "merge of a paper with itself";
    List<String> calls = new ArrayList<>(List.of("merge 1 1 1 1", "merge 0 0 1 1", "merge 2 2 20 20", "merge 0 0 0 21"));
    for (String call : calls) {
      refuse(call, "IAE");
    }
    refuse("merge 3 3 1 1", "IOOBE");
    refuse("merge -1 -1 0 0", "IOOBE");
    refuse("merge 2 1 1 1", "ISE");
    refuse("merge 1 2 1 1", "ISE");
    refuse("merge 1 2 0 1", "IAE");
  }
}
