import java.math.BigInteger;
import java.util.ArrayList;
import java.util.List;

/** Boundary cases of the house: UNDO, -9, exceptions, 512 calls, and promises 45 to 49. */
public final class HouseEdgesTest {
  private static final int LEAST = Integer.MIN_VALUE;
  private static final int MOST = Integer.MAX_VALUE;

  private HouseEdgesTest() {
  }

  public static void main(String[] args) {
    undoAnswers();
    undoSteps();
    undoNothing();
    undoPairs();
    undoThings();
    refused();
    exceptions();
    numbers();
    house();
    knock();
    isSound();
    digest();
    digestWraps();
    mostCalls();
    allPlaces();
    EdgeHelp.close("house edges", 45, 46, 47, 48, 49);
  }

  private static void edge(int promise, String sentence, String... script) {
    EdgeHelp.edge(promise, sentence, script);
  }

  private static void edge(int promise, String sentence, String[] start, String... script) {
    EdgeHelp.edge(promise, sentence, EdgeHelp.join(start, script));
  }

  /** So many papers, each with its number and one as COUNT. */
  private static String[] papers(int n) {
    String[] all = new String[n];
    for (int p = 0; p < n; p++) {
      all[p] = "paper " + (p + 1) + " 1 0 1 -> " + p;
    }
    return all;
  }

  // ---- steps back

  private static void undoAnswers() {
    edge(45, "Returns how many can be taken back then.", papers(1), "undo -> 0", "house 1 -> 0", "undo -> ISE");
    edge(45, "Returns how many can be taken back then.", papers(7), "undo -> 6", "undo -> 5", "undo -> 4", "undo -> 3",
        "undo -> 2", "undo -> 1", "undo -> 0", "house 1 -> 0", "undo -> ISE");
    edge(45, "if there is none", "undo -> ISE", "undo -> ISE", "knock -> 1", "changed ->", "isSound -> true",
        "house 4 -> 0", "undo -> ISE", "paper 0 1 0 1 -> IAE", "make 0 1 -> IOOBE", "undo -> ISE", "paper 1 1 0 1 -> 0",
        "undo -> 0", "undo -> ISE", "house 1 -> 0", "next -> 1", "undo -> 0", "house 0 -> 0", "undo -> ISE");
  }

  private static void undoSteps() {
    String last8 = "UNDO: the last 8 of the calls that are said to CHANGE (also if nothing is other then) can be taken"
        + " back, one by one.";
    // eight and nine
    edge(0, last8, papers(8), "house 4 -> 8", "undo -> 7", "undo -> 6", "undo -> 5", "undo -> 4", "undo -> 3", "undo -> 2",
        "undo -> 1", "house 1 -> 1", "ofPaper 0 1 -> 1", "undo -> 0", "house 1 -> 0", "undo -> ISE");
    edge(0, last8, papers(9), "house 4 -> 8", "undo -> 7", "undo -> 6", "undo -> 5", "undo -> 4", "undo -> 3", "undo -> 2",
        "undo -> 1", "house 1 -> 2", "undo -> 0", "house 1 -> 1", "undo -> ISE", "house 1 -> 1", "ofPaper 0 1 -> 1",
        "count 0 5 -> 1", "undo -> 0", "ofPaper 0 1 -> 1", "undo -> ISE");
    // what was done instead counts anew; what had been left behind does not come back
    edge(0, last8, papers(10), "undo -> 7", "undo -> 6", "undo -> 5", "house 1 -> 7", "paper 77 1 0 1 -> 7", "house 4 -> 6",
        "undo -> 5", "undo -> 4", "undo -> 3", "undo -> 2", "undo -> 1", "undo -> 0", "house 1 -> 2", "undo -> ISE",
        "ofPaper 1 1 -> 2");
    edge(0, last8, papers(8), "undo -> 7", "count 0 9 -> 1", "house 4 -> 8", "count 0 10 -> 9", "house 4 -> 8",
        "undo -> 7", "ofPaper 0 1 -> 9", "undo -> 6", "ofPaper 0 1 -> 1", "undo -> 5", "house 1 -> 6", "undo -> 4",
        "undo -> 3", "undo -> 2", "undo -> 1", "undo -> 0", "house 1 -> 1", "undo -> ISE");
    // a DAY that has ended, with all that its end did
    edge(0, last8, EdgeHelp.shares(3), "fund 0 999 0 1 -> 1", "make 1 9999 -> 9999", "review 0 -> 1", "count 0 1 -> 1000",
        "next -> 2", "house 5 -> 0", "money 1 2 -> 2736", "undo -> 7", "house 0 -> 1", "house 5 -> 1", "money 1 2 -> 0",
        "ofFund 1 8 -> 0", "level 0 1 -> 1000000", "next -> 2", "money 1 2 -> 2736");
    // a price, and one told for the same DAY before it
    edge(0, last8, "paper 1 1 0 5 -> 0", "next -> 1", "price 0 1 6 -> 0", "price 0 1 7 -> 0", "price 0 0 8 -> 0",
        "undo -> 4", "priceOn 0 0 -> 5", "priceOn 0 1 -> 7", "undo -> 3", "priceOn 0 1 -> 6", "undo -> 2",
        "priceOn 0 1 -> 5", "undo -> 1", "undo -> 0", "undo -> ISE");
    // prices of a paper that is taken back do not come back with another one
    edge(0, last8, "paper 1 1 0 5 -> 0", "spin 0 1 1 6 -> 1", "next -> 1", "price 1 1 7 -> 0", "undo -> 3", "undo -> 2",
        "undo -> 1", "next -> 1", "next -> 2", "paper 2 1 0 9 -> 1", "priceOn 1 0 -> -1", "priceOn 1 1 -> -1",
        "priceOn 1 2 -> 9");
  }

  /** Each sort of CHANGE can be taken back, also one by which nothing is other. */
  private static void undoNothing() {
    String also = "(also if nothing is other then)";
    edge(0, also, EdgeHelp.shares(1), "count 0 1000 -> 1000", "free 0 100 -> 100", "price 0 0 1000 -> 0",
        "split 0 1 1 -> 1000", "tax 0 0 -> 0", "part 0 -1 -> -1", "lend 0 0 0 -> 0", "trade 0 -> 0", "house 4 -> 8",
        "undo -> 7", "undo -> 6", "undo -> 5", "undo -> 4", "undo -> 3", "undo -> 2", "undo -> 1", "undo -> 0",
        "held 0 0 -> 1", "house 0 -> 1", "undo -> ISE");
    edge(0, also, papers(2), "pay 0 1 -> 0", "rights 0 1 20 1 -> 1", "split 0 1 20 -> 1", "house 4 -> 5",
        "merge 1 0 1 20 -> 1", "house 4 -> 6", "index 0 1 0 10 -1 true -> 0", "review 0 -> 1", "review 0 -> 1",
        "house 4 -> 8", "undo -> 7", "house 5 -> 1", "undo -> 6", "house 5 -> 0", "undo -> 5", "house 2 -> 0",
        "undo -> 4", "ofPaper 1 5 -> 0");
    // what is no CHANGE cannot be taken back
    edge(0, also, EdgeHelp.shares(1), "house 4 -> 7", "knock -> 1", "make 0 0 -> IAE", "take 0 2 -> -9",
        "index 9 1 0 10 -1 true -> IAE", "level 0 0 -> 1000000", "would 0 ->", "isSound -> true", "house 4 -> 7",
        "undo -> 6", "held 0 0 -> 0", "house 6 -> 1");
  }

  /** A start from which each sort of CHANGE changes something; the last of it can be taken back. */
  private static final String[] RICH = {
    "paper 1000 50 0 10", "paper 500 100 1 30", "paper 70 100 1 20", "index 0 2 1 60 -1 true",
    "index 2 2 0 60 -1 false", "tax 0 10", "part 1 0", "fund 0 300 0 3", "fund 1 0 1 1", "make 0 50", "make 1 20",
    "review 0", "review 1", "next", "trade 0", "trade 1", "next", "price 0 2 11", "pay 0 3",
  };

  private static final String[] CHANGES = {
    "paper 9 9 2 9", "price 0 1 77", "price 1 0 2", "count 0 7", "free 1 3", "split 0 3 7", "pay 0 13",
    "rights 1 2 3 5", "spin 0 3 7 8", "merge 0 1 3 7", "next", "index 3 2 0 50 1 true", "tax 0 55", "part 1 -1",
    "review 0", "fund 0 9 0 1", "make 0 3", "take 1 3", "trade 0", "lend 0 0 50",
  };

  private static Indexkeeper keeper(String[] start, String... more) {
    Indexkeeper x = new Indexkeeper();
    for (String call : EdgeHelp.join(start, more)) {
      ScriptHelp.ask(x, call);
    }
    return x;
  }

  /** Each CHANGE is taken back, then each other one: nothing is left of both. */
  private static void undoPairs() {
    String label = EdgeHelp.quote(45, "Takes the last CHANGE back that can be.");
    int most = ScriptHelp.MOST_CALLS - RICH.length - 10;
    for (String one : CHANGES) {
      List<String> due = ScriptHelp.picture(keeper(RICH, one), most);
      for (String two : CHANGES) {
        List<String> is = ScriptHelp.picture(keeper(RICH, one, "undo", two, "undo", one), most);
        ScriptHelp.due(label, one + " behind " + two + " that is taken back", is, due);
      }
    }
  }

  /** Things that come behind a step back are new ones, whatever those were that had their numbers. */
  private static void undoThings() {
    String label = EdgeHelp.quote(45, "Takes the last CHANGE back that can be.");
    String[][] before = {
      {"fund 1 999 2 3", "make 2 3000", "trade 2", "lend 2 0 70", "pay 1 7", "make 2 7", "next", "next"},
      {"fund 0 999 0 1", "make 2 9999", "trade 2", "next", "price 1 2 99999", "take 2 7", "next"},
      {"index 2 3 1 40 -1 true", "tax 2 50", "part 2 0", "review 2", "next", "price 0 1 8", "review 2", "next"},
      {"index 3 3 1 10 3 false", "review 2", "next", "tax 2 100", "review 2"},
      {"paper 7 7 3 99999", "split 3 2 1", "next", "price 3 3 5", "next", "price 3 4 6", "merge 3 0 1 1"},
      {"spin 1 20 1 99999", "next", "price 3 3 5", "price 3 2 4", "review 0", "next"},
    };
    String[][] behind = {
      {"fund 0 1 0 1", "next", "next"}, {"fund 1 0 0 1", "make 2 1", "next", "next", "next"}, {"index 1 1 0 100 -1 true"},
      {"index 0 3 0 100 -1 true", "next"}, {"paper 1 1 1 1", "next"}, {"spin 0 1 1 1", "next"},
      {"next", "next", "paper 1 1 1 1"},
    };
    for (String[] ahead : before) {
      String[] gone = EdgeHelp.join(ahead, EdgeHelp.times(ahead.length, "undo"));
      for (String[] then : behind) {
        String what = then[0] + " behind " + ahead[0] + " that is taken back";
        // once and twice, with a price told in between, for what is held may be held twice
        String[] twice = EdgeHelp.join(EdgeHelp.join(gone, "price 0 0 10"), gone);
        ScriptHelp.due(label, what, now(keeper(RICH, EdgeHelp.join(gone, then))), now(keeper(RICH, then)));
        ScriptHelp.due(label, what + ", twice", now(keeper(RICH, EdgeHelp.join(twice, then))),
            now(keeper(EdgeHelp.join(RICH, "price 0 0 10"), then)));
      }
    }
  }

  /** All that is answered now, but for how many changes can be taken back. */
  private static String now(Indexkeeper x) {
    StringBuilder all = new StringBuilder(x.changed());
    int days = x.house(0) + 1;
    int papers = x.house(1);
    int indexes = x.house(2);
    int funds = x.house(3);
    all.append(' ').append(x.house(5)).append(' ').append(x.house(7));
    for (int p = 0; p < papers; p++) {
      ask(x, all, "ofPaper " + p + " #", 7);
      ask(x, all, "priceOn " + p + " #", days);
      ask(x, all, "votes " + p + " true", 1);
    }
    for (int i = 0; i < indexes; i++) {
      ask(x, all, "ofIndex " + i + " #", 12);
      ask(x, all, "why " + i, 1);
      ask(x, all, "level " + i + " #", days);
      ask(x, all, "weight " + i + " #", papers);
      ask(x, all, "isCut " + i + " #", papers);
      ask(x, all, "report " + i, 1);
    }
    for (int f = 0; f < funds; f++) {
      ask(x, all, "ofFund " + f + " #", 9);
      ask(x, all, "money " + f + " #", 3);
      ask(x, all, "held " + f + " #", papers);
      ask(x, all, "error " + f, 1);
      ask(x, all, "collateral " + f, 1);
      ask(x, all, "would " + f, 1);
    }
    return all.toString();
  }

  private static void ask(Indexkeeper x, StringBuilder all, String call, int times) {
    for (int n = 0; n < times; n++) {
      all.append(' ').append(ScriptHelp.ask(x, call.replace("#", "" + n)));
    }
  }

  // ---- -9 and exceptions

  private static void refused() {
    String refused = "-9 (REFUSED) is told, where a call is LET, but cannot be done; then nothing changes.";
    edge(0, refused, EdgeHelp.shares(3), "take 0 4 -> -9", "house 4 -> 7", "ofFund 0 4 -> 3", "held 0 0 -> 3",
        "undo -> 6", "held 0 0 -> 0", "money 0 0 -> 3000");
    edge(0, refused, "index 0 1 0 10 -1 true -> 0", "fund 0 0 0 1 -> 0", "trade 0 -> -9", "take 0 1 -> -9",
        "house 4 -> 2", "ofFund 0 7 -> 0", "undo -> 1", "house 3 -> 0");
    edge(0, "NONE is -1.", "index 0 1 0 10 -1 true -> 0", "part 0 -1 -> -1", "ofIndex 0 4 -> -1", "ofIndex 0 7 -> -1",
        "ofIndex 0 9 -> -1", "index 0 1 0 10 3 true -> 1", "next -> 1", "paper 1 1 0 1 -> 0", "priceOn 0 0 -> -1",
        "rank 1 0 -> -1", "index 0 1 0 10 -2 true -> IAE", "part 0 -2 -> IAE");
  }

  private static void exceptions() {
    edge(0, "A method that throws an exception changes nothing.", papers(10), "paper 1 1 0 1 -> ISE",
        "spin 0 1 1 1 -> ISE", "house 1 -> 10", "price 0 0 0 -> IAE", "ofPaper 0 3 -> 1", "merge 0 0 1 1 -> IAE",
        "house 7 -> 0", "house 4 -> 8", "undo -> 7", "house 1 -> 9");
    edge(0, "If several exceptions apply, the one that is named first is thrown.",
        "price 0 9 0 -> IOOBE", "count 0 0 -> IOOBE", "merge 0 0 0 0 -> IOOBE", "part 0 0 -> IOOBE",
        "fund 0 -1 9 0 -> IOOBE", "lend 0 0 101 -> IOOBE", "growth 0 1 1 -> IOOBE", "gain 0 0 -> IOOBE",
        "paper 1 1 0 1 -> 0", "paper 1 1 0 1 -> 1", "merge 0 1 1 1 -> 2", "count 0 0 -> IAE", "free 0 0 -> IAE",
        "split 0 0 1 -> IAE", "pay 0 0 -> IAE", "rights 0 1 1 0 -> IAE", "spin 0 1 0 1 -> IAE", "merge 0 0 1 1 -> IAE",
        "merge 0 1 0 1 -> IAE", "merge 0 2 1 1 -> IOOBE", "count 0 1 -> ISE");
    edge(0, "Exceptions go ahead of -9.", "index 0 1 0 10 -1 true -> 0", "fund 0 0 0 1 -> 0", "take 0 1 -> -9",
        "take 0 0 -> IAE", "take 0 10000 -> IAE", "take 1 1 -> IOOBE", "trade 0 -> -9", "trade 1 -> IOOBE",
        "trade -1 -> IOOBE");
  }

  private static void numbers() {
    edge(0, "\"floor\" of a fraction is the greatest whole number that is not above it",
        // - 1 / 3 of a thousandth, by DAYS; and 1 - 4 / 3 in millionths
        "paper 1000 100 0 30 -> 0", "index 1 1 0 100 -1 false -> 0", "fund 0 0 0 1 -> 0", "make 0 1 -> 1",
        "review 0 -> 1", "next -> 1", "price 0 1 9 -> 1", "next -> 2", "level 0 1 -> 300000", "price 0 2 12 -> 1",
        "next -> 3", "ofIndex 0 11 -> 0", "error 0 -> 601111555556", "price 0 2 20 -> 2", "level 0 2 -> 666667",
        "ofIndex 0 11 -> -334");
    edge(0, "\"ceiling\" the least one that is not below.", EdgeHelp.shares(3), "split 0 4 3 -> 1333", "make 0 1 -> 4",
        "money 0 0 -> 334", "lend 0 0 20 -> 0", "held 0 0 -> 5", "collateral 0 -> 1050", "next -> 2",
        "price 0 2 19 -> 1", "collateral 0 -> 20", "price 0 2 20 -> 1", "collateral 0 -> 21", "price 0 2 21 -> 1",
        "collateral 0 -> 23");
  }

  // ---- what is asked

  private static void house() {
    edge(46, "Returns that.", EdgeHelp.join(papers(2), "house 0 -> 0", "house 1 -> 2", "house 2 -> 0", "house 3 -> 0",
        "house 4 -> 2", "house 5 -> 0", "house 6 -> 0", "house 7 -> 0"), "merge 0 1 1 1 -> 3", "knock -> 1",
        "index 0 1 0 10 -1 true -> 0", "review 0 -> 1", "fund 0 0 0 1 -> 0", "house 0 -> 0", "house 1 -> 2",
        "house 2 -> 1", "house 3 -> 1", "house 4 -> 6", "house 5 -> 1", "house 6 -> 1", "house 7 -> 1", "next -> 1",
        "house 0 -> 1", "house 5 -> 0");
    // all that there can be
    edge(46, "Returns that.", papers(10), "merge 0 9 1 1 -> 11", "merge 1 9 1 1 -> 13", "merge 2 9 1 1 -> 16",
        "merge 3 9 1 1 -> 20", "merge 4 9 1 1 -> 25", "merge 5 9 1 1 -> 31", "merge 6 9 1 1 -> 38",
        "merge 7 9 1 1 -> 46", "merge 8 9 1 1 -> 55", "house 7 -> 9", "index 0 1 0 10 -1 true -> 0",
        "index 0 1 0 10 -1 true -> 1", "index 0 1 0 10 -1 true -> 2", "index 0 1 0 10 -1 true -> 3", "review 0 -> 1",
        "review 1 -> 2", "review 2 -> 3", "review 3 -> 4", "fund 0 0 0 1 -> 0", "fund 0 0 0 1 -> 1", "fund 0 0 0 1 -> 2",
        "house 1 -> 10", "house 2 -> 4", "house 3 -> 3", "house 4 -> 8", "house 5 -> 4");
    edge(46, "if what is not 0 to 7", "house -1 -> IAE", "house 0 -> 0", "house 7 -> 0", "house 8 -> IAE",
        "house " + LEAST + " -> IAE", "house " + MOST + " -> IAE");
  }

  private static void knock() {
    edge(47, "Returns how often one knocked, with this.", "house 6 -> 0", "knock -> 1", "house 6 -> 1", "knock -> 2",
        // it is no CHANGE
        "house 4 -> 0", "undo -> ISE", "paper 1 1 0 1 -> 0", "knock -> 3", "undo -> 0", "house 6 -> 3", "knock -> 4");
    String[] all = new String[511];
    for (int i = 0; i < all.length; i++) {
      all[i] = "knock -> " + (i + 1);
    }
    edge(47, "Returns how often one knocked, with this.", all, "house 6 -> 511");
  }

  private static void isSound() {
    String sound = "Returns whether all of this is so:";
    edge(48, sound, "isSound -> true", "next -> 1", "isSound -> true", "undo -> 0", "isSound -> true");
    edge(48, "(MAKE and TAKE also where they would be REFUSED)", EdgeHelp.shares(10), "rights 0 1 1 1500 -> 2000",
        "make 0 1 -> 11", "take 0 2 -> 9", "isSound -> true", "price 0 1 500 -> 1", "money 0 1 -> -9000",
        "isSound -> true", "make 0 1 -> -9", "isSound -> true", "undo -> 7", "isSound -> true");
    edge(48, "in one of the WAY 2 none is above CAP (as it was then, it never changes), CUT ones are CAP;",
        "paper 60 100 0 1 -> 0", "paper 40 100 0 1 -> 1", "index 2 2 0 50 -1 false -> 0",
        "index 2 1 0 100 -1 false -> 1", "index 2 2 0 60 -1 false -> 2", "review 0 -> 1", "review 1 -> 2",
        "review 2 -> 3", "isSound -> true", "next -> 1", "isSound -> true", "isCut 0 0 -> 1", "isCut 2 0 -> 0",
        "price 0 1 99999 -> 3", "isSound -> true", "merge 0 1 1 1 -> 100", "review 0 -> 1", "next -> 2", "why 0 -> cap",
        "isSound -> true");
    edge(48, "in one of the WAY 2 none is above CAP (as it was then, it never changes), CUT ones are CAP;",
        // in the other WAYS it does not matter
        "paper 60 100 0 1 -> 0", "paper 40 100 1 1 -> 1", "index 0 2 0 10 -1 false -> 0", "index 1 2 0 10 -1 false -> 1",
        "index 3 1 0 10 -1 false -> 2", "index 2 2 0 100 -1 false -> 3", "review 0 -> 1", "review 1 -> 2",
        "review 2 -> 3", "review 3 -> 4", "next -> 1", "weight 0 0 -> 3/5", "weight 1 0 -> 1/2", "weight 2 0 -> 1/1",
        "weight 3 0 -> 3/5", "isSound -> true");
    edge(48, "CARRIED of each FUND is 0 to 3649999.",
        "index 0 1 0 100 -1 false -> 0", "fund 0 365 0 1 -> 0", "fund 0 1 0 1 -> 1", "make 0 10 -> 10",
        "make 1 3650 -> 3650", "next -> 1", "ofFund 0 8 -> 0", "isSound -> true", "next -> 2", "ofFund 1 8 -> 3649999",
        "isSound -> true");
  }

  // ---- the checksum

  private static void digest() {
    String d = "Returns d.";
    edge(49, d, "digest -> 5657894065028469304", "digest -> 5657894065028469304", "knock -> 1",
        // the 1 of house(6), three numbers ahead of the end
        "digest -> 5657894065028499095");
    // "-" is 45 and "0" is 48; NONE is taken off
    edge(49, "for each v in this order (of a text the codes of its signs)", "index 0 1 0 10 -1 true -> 0",
        "digest -> -6276885737279767295", "fund 0 7 2 3 -> 0", "digest -> -7992134442441884458");
    edge(49, "for each v in this order (of a text the codes of its signs)", "paper 5 6 2 7 -> 0",
        "digest -> -7799684204821037754");
  }

  /** d becomes more than a long holds: what is told are its last 64 bits, with a sign. */
  private static void digestWraps() {
    String label = EdgeHelp.quote(49, "which wraps around as a 64-bit integer");
    List<String> calls = new ArrayList<>(List.of("knock", "paper 1000 100 0 100", "paper 900 50 3 90",
        "paper 70 1 2 7", "index 2 3 0 40 -1 true", "index 0 1 0 100 3 false", "tax 0 7", "part 1 0", "fund 0 999 0 3",
        "fund 1 0 1 1", "make 0 77", "make 1 9999", "review 0", "review 1", "next", "trade 0", "trade 1", "lend 0 0 33",
        "lend 1 1 100", "price 0 1 90", "pay 0 3", "next", "split 0 3 7", "rights 1 1 3 5", "price 1 1 95",
        "spin 1 2 3 9", "merge 2 0 1 2", "take 0 5", "next", "undo", "knock"));
    Indexkeeper x = new Indexkeeper();
    int above = 0;
    int below = 0;
    for (String call : calls) {
      ScriptHelp.ask(x, call);
    }
    // each picture takes many calls, so each is of a keeper of its own
    for (int n = 0; n <= calls.size(); n++) {
      Indexkeeper y = new Indexkeeper();
      for (int i = 0; i < n; i++) {
        ScriptHelp.ask(y, calls.get(i));
      }
      BigInteger whole = DigestHelp.whole(y);
      long due = whole.longValue();
      boolean isLong = whole.bitLength() < 64;
      above += !isLong && due > 0 ? 1 : 0;
      below += !isLong && due < 0 ? 1 : 0;
      ScriptHelp.due(label, "digest behind " + n + " calls", y.digest(), due);
      ScriptHelp.due(label, "digest behind " + n + " calls, again", y.digest(), due);
    }
    ScriptHelp.due(label, "whether some wrapped to numbers above 0 and some to numbers below", above > 3 && below > 3, true);
  }

  // ---- as many calls as there may be

  private static void mostCalls() {
    String most = "An object is used for at most 512 calls after it has been made;";
    String[] counts = new String[512];
    counts[0] = "paper 1 1 0 1 -> 0";
    for (int i = 1; i < counts.length; i++) {
      counts[i] = "count 0 " + (i + 1) + " -> " + i;
    }
    edge(0, most, counts);
    // the last of 512 CHANGES is done as all others are
    for (String last : new String[] {"split 0 2 1 -> 1022", "next -> 1", "spin 0 1 1 1 -> 1", "undo -> 7", "pay 0 1 -> 0"}) {
      String[] changes = counts.clone();
      changes[511] = last;
      edge(0, most, changes);
    }
    String[] prices = counts.clone();
    for (int i = 1; i < 504; i++) {
      prices[i] = "price 0 0 " + (i + 1) + " -> 0";
    }
    prices[504] = "ofPaper 0 3 -> 504";
    for (int i = 505; i < 512; i++) {
      prices[i] = "undo -> " + (512 - i);
    }
    edge(0, most, prices);
    prices[511] = "changed ->";
    for (int i = 504; i < 511; i++) {
      prices[i] = "price 0 0 " + (i + 1) + " -> 0";
    }
    edge(0, most, prices);
    String[] ends = counts.clone();
    for (int i = 1; i < 511; i++) {
      ends[i] = i % 2 == 1 ? "next -> 1" : "undo -> 1";
    }
    ends[511] = "house 0 -> 0";
    edge(0, most, ends);
    // the last call that counts is a late price, by which 500 calls are told anew
    List<String> late = new ArrayList<>(List.of(EdgeHelp.shares(3)));
    for (int i = 0; i < 500; i++) {
      late.add(i % 4 == 0 ? "pay 0 1 -> 3" : i % 4 == 1 ? "make 0 1 -> 4" : i % 4 == 2 ? "take 0 1 -> 3" : "trade 0 -> 0");
    }
    late.add("held 0 0 -> 3");
    late.add("money 0 0 -> 375");
    late.add("price 0 1 500 -> 1");
    edge(0, most, late.toArray(new String[0]));
  }

  /** Ten papers, four indexes and three funds, up to the DAY 40: all answers are those of the plain model. */
  private static void allPlaces() {
    String label = "all places taken";
    List<String> calls = new ArrayList<>();
    for (int p = 0; p < 8; p++) {
      calls.add("paper " + (1000 - 37 * p) + " " + (100 - p) + " " + p % 4 + " " + (90 + 7 * p));
    }
    for (int i = 0; i < 4; i++) {
      calls.add("index " + (3 - i) + " 8 3 " + (13 + i) + " -1 " + (i % 2 == 0));
      calls.add("review " + i);
    }
    calls.add("part 3 2");
    for (int f = 0; f < 3; f++) {
      calls.add("fund " + (f + 1) + " " + 333 * f + " " + 4 * f + " " + (1 + f));
      calls.add("make " + f + " 9999");
    }
    calls.addAll(List.of("next", "trade 0", "trade 1", "trade 2", "spin 7 3 2 55", "spin 0 1 3 99999", "spin 1 1 1 1",
        "paper 1 1 0 1", "index 0 1 0 10 -1 true", "fund 0 0 0 1", "review 0", "review 1", "review 2", "review 3", "next",
        "split 9 3 2", "split 7 2 3", "pay 9 77", "rights 9 2 3 44", "rights 8 1 7 99", "lend 2 9 33", "lend 2 8 100",
        "trade 0", "trade 1", "trade 2", "merge 9 8 2 3", "merge 0 7 1 9", "price 8 1 66", "review 3", "tax 3 17"));
    for (int day = 2; day < 40; day++) {
      calls.add("next");
    }
    calls.addAll(List.of("next", "price 8 40 91", "price 7 17 13", "trade 2", "take 2 9999", "make 2 1"));
    Indexkeeper x = new Indexkeeper();
    PlainHelp plain = new PlainHelp();
    for (String call : calls) {
      ScriptHelp.due(label, call, ScriptHelp.ask(x, call), ScriptHelp.ask(plain, call));
    }
    for (String call : new String[] {"ofPaper 9 6", "size 9", "votes 9 true", "votes 8 false", "rank 3 8", "ofIndex 3 11",
        "level 3 40", "members 3", "why 3", "weight 3 8", "isCut 1 8", "part10000 3 8", "common 3 2", "growth 3 1 40",
        "report 3", "changed", "ofFund 2 8", "money 2 1", "held 2 8", "unit 2", "would 2", "error 2", "gain 2 999",
        "collateral 2", "digest", "isSound", "undo", "digest", "undo", "digest"}) {
      ScriptHelp.due(label, call, ScriptHelp.ask(x, call), ScriptHelp.ask(plain, call));
    }
  }
}
