/** Boundary cases of funds, sentence by sentence: "3. Funds", and promises 16 to 20 and 37 to 44. */
public final class FundEdgesTest {
  private static final int LEAST = Integer.MIN_VALUE;
  private static final int MOST = Integer.MAX_VALUE;

  /** A fund with 10 units that holds 20 of a paper at 1000, and owes all that these are worth. */
  private static final String[] WORTH_0 =
      EdgeHelp.join(EdgeHelp.shares(10), "rights 0 1 1 2000 -> 2000", "held 0 0 -> 20", "money 0 1 -> 0");
  /** The same with a coin. */
  private static final String[] WORTH_1 =
      EdgeHelp.join(WORTH_0, "tax 0 99 -> 0", "pay 0 5 -> 1", "money 0 0 -> -19999", "money 0 1 -> 1");
  /** The same, but for a paper for which it paid a coin too much. */
  private static final String[] WORTH_BELOW_0 =
      EdgeHelp.join(WORTH_0, "rights 0 1 20 1001 -> 2100", "held 0 0 -> 21", "money 0 1 -> -1");
  /** A fund with a unit that has 1000 coins, and an index with LEVELS of 0 and 1; today is 1. */
  private static final String[] COINS = {
    "paper 1000 100 0 10 -> 0", "index 1 1 0 100 -1 false -> 0", "fund 0 0 0 1 -> 0", "make 0 1 -> 1",
    "review 0 -> 1", "next -> 1",
  };

  private FundEdgesTest() {
  }

  public static void main(String[] args) {
    start();
    makeAndTake();
    left();
    trade();
    fee();
    lent();
    error();
    doneStaysDone();
    fund();
    make();
    take();
    tradeAndLend();
    ofFund();
    money();
    heldAndUnit();
    would();
    gain();
    errorAndCollateral();
    EdgeHelp.close("fund edges", 16, 17, 18, 19, 20, 37, 38, 39, 40, 41, 42, 43, 44);
  }

  private static void edge(int promise, String sentence, String... script) {
    EdgeHelp.edge(promise, sentence, script);
  }

  private static void edge(int promise, String sentence, String[] start, String... script) {
    EdgeHelp.edge(promise, sentence, EdgeHelp.join(start, script));
  }

  /** A call with "#" for the number of a FUND, of which there are none, one and two. */
  private static void edgeOfNumber(int promise, String sentence, String call, String due) {
    edge(promise, sentence,
        call.replace("#", "0") + " -> IOOBE", "paper 5 9 0 1 -> 0", "index 0 1 0 100 -1 false -> 0",
        call.replace("#", "0") + " -> IOOBE", "fund 0 0 0 1 -> 0", call.replace("#", "-1") + " -> IOOBE",
        call.replace("#", "0") + " -> " + due, call.replace("#", "1") + " -> IOOBE", "fund 0 0 0 1 -> 1",
        call.replace("#", "1") + " -> " + due, call.replace("#", "2") + " -> IOOBE",
        call.replace("#", "" + LEAST) + " -> IOOBE", call.replace("#", "" + MOST) + " -> IOOBE");
    edge(promise, sentence,
        "paper 5 9 0 1 -> 0", "index 0 1 0 100 -1 false -> 0", "fund 0 0 0 1 -> 0", "fund 0 0 0 1 -> 1", "undo -> 3",
        call.replace("#", "1") + " -> IOOBE", call.replace("#", "0") + " -> " + due);
  }

  // ---- the description

  private static void start() {
    edge(0, "It has UNITS, money (it may be below 0), HOLDINGS, all 0 at first.",
        "paper 1 1 0 1 -> 0", "index 0 1 0 100 -1 false -> 0", "fund 0 999 8 100 -> 0", "ofFund 0 4 -> 0",
        "money 0 0 -> 0", "money 0 1 -> 0", "money 0 2 -> 0", "held 0 0 -> 0", "ofFund 0 5 -> 0", "ofFund 0 6 -> 0",
        "ofFund 0 7 -> 0", "ofFund 0 8 -> 0", "unit 0 -> -", "error 0 -> 0", "collateral 0 -> 0", "next -> 1",
        "money 0 0 -> 0", "ofFund 0 8 -> 0");
    edge(0, "It has UNITS, money (it may be below 0), HOLDINGS, all 0 at first.", EdgeHelp.shares(1),
        "rights 0 1 1 1 -> 2000", "money 0 0 -> -1", "rights 0 20 1 99999 -> 42000", "money 0 0 -> -3999961",
        "money 0 1 -> -3957961");
    edge(0, "WORTH: HOLDINGS * PRICES of TODAY, and money.", EdgeHelp.shares(3),
        "money 0 1 -> 3000", "next -> 2", "price 0 2 99999 -> 1", "money 0 1 -> 299997", "price 0 2 1 -> 1",
        "money 0 1 -> 3", "pay 0 1 -> 3", "money 0 1 -> 6");
    edge(0, "FUNDS: at most 3", "index 0 1 0 100 -1 false -> 0", "fund 0 0 0 1 -> 0", "fund 0 0 0 1 -> 1",
        "fund 0 0 0 1 -> 2", "fund 0 0 0 1 -> ISE");
  }

  private static void makeAndTake() {
    edge(0, "with 0 UNITS n * 1000 coins come as money (whatever there is).",
        "paper 1 1 0 1 -> 0", "index 0 1 0 100 -1 false -> 0", "fund 0 0 0 1 -> 0", "make 0 1 -> 1", "money 0 0 -> 1000",
        "take 0 1 -> 0", "money 0 0 -> 0", "make 0 9999 -> 9999", "money 0 0 -> 9999000");
    // all of it goes with the last UNIT
    edge(0, "with 0 UNITS n * 1000 coins come as money (whatever there is).", EdgeHelp.shares(3),
        "pay 0 7 -> 21", "split 0 1 2 -> 500", "held 0 0 -> 1", "money 0 0 -> 521", "take 0 3 -> 0", "held 0 0 -> 0",
        "money 0 0 -> 0", "money 0 1 -> 0", "pay 0 7 -> 0", "make 0 2 -> 2", "money 0 0 -> 2000", "held 0 0 -> 0",
        "ofFund 0 5 -> 0");
    String make = "Otherwise of each PAPER the floor of HOLDING * n / UNITS comes, and as money the ceiling of what"
        + " n * WORTH / UNITS (WORTH ahead of it) is more than these at their PRICES.";
    edge(0, make, EdgeHelp.shares(3),
        // a share for each, and no coin; then 1 of 4 * 2 / 3 for 2, and a third of a coin, rounded up
        "make 0 1 -> 4", "held 0 0 -> 4", "money 0 0 -> 0", "undo -> 7", "split 0 4 3 -> 1333", "held 0 0 -> 4",
        "make 0 1 -> 4", "held 0 0 -> 5", "money 0 0 -> 334", "ofFund 0 5 -> 666", "undo -> 7", "split 0 3 4 -> 999",
        "held 0 0 -> 3", "money 0 0 -> 0", "pay 0 1 -> 3", "make 0 1 -> 4", "money 0 0 -> 4", "ofFund 0 5 -> 0");
    edge(0, "TAKE n UNITS back: the same floors go, and as money the floor of what n * WORTH / UNITS is more than these.",
        EdgeHelp.shares(3),
        "take 0 1 -> 2", "held 0 0 -> 2", "money 0 0 -> 0", "undo -> 7", "split 0 4 3 -> 1333", "held 0 0 -> 4",
        // 1 of 4 / 3, and the floor of 333.33; then all the rest
        "take 0 1 -> 2", "held 0 0 -> 3", "money 0 0 -> -333", "ofFund 0 5 -> 333", "take 0 2 -> 0", "held 0 0 -> 0",
        "money 0 0 -> 0", "ofFund 0 5 -> 333");
    // fewer papers than UNITS: none comes or goes, but coins do
    edge(0, make, EdgeHelp.shares(2), "split 0 1 2 -> 500", "held 0 0 -> 1", "money 0 0 -> 0", "make 0 1 -> 3",
        "held 0 0 -> 1", "money 0 0 -> 500", "take 0 1 -> 2", "held 0 0 -> 1", "money 0 0 -> 0", "ofFund 0 5 -> 0");
  }

  private static void left() {
    String left = "LEFT: for each of both (but for MAKE with 0 UNITS) the floor of 1000 * the difference of that ceiling"
        + " or floor and the exact number, all together.";
    // the exact numbers are below 0: a tenth of a coin less two papers
    edge(0, left, WORTH_1, "make 0 1 -> 11", "held 0 0 -> 22", "money 0 0 -> -21998", "ofFund 0 5 -> 900", "undo -> 7",
        "ofFund 0 5 -> 0", "take 0 1 -> 9", "held 0 0 -> 18", "money 0 0 -> -17999", "ofFund 0 5 -> 100",
        // 3 * 1 / 9, and 6 of 18 papers
        "take 0 3 -> 6", "held 0 0 -> 12", "money 0 0 -> -11999", "ofFund 0 5 -> 433");
    // 99 coins for 9999 UNITS: 100 of them are 0.990099 coins
    edge(0, left, EdgeHelp.shares(9999), "tax 0 99 -> 0", "pay 0 1 -> 99", "take 0 100 -> 9899", "money 0 0 -> 99",
        "ofFund 0 5 -> 990", "undo -> 7", "make 0 100 -> 10099", "money 0 0 -> 100", "ofFund 0 5 -> 9", "undo -> 7",
        "make 0 101 -> 10100", "money 0 0 -> 100", "ofFund 0 5 -> 0");
    // a third of a coin below 0: the floor is -1, the ceiling 0
    edge(0, left, EdgeHelp.shares(3), "rights 0 1 3 1001 -> 1333", "split 0 3 4 -> 999", "held 0 0 -> 3",
        "money 0 0 -> -1001", "pay 0 250 -> 750", "pay 0 83 -> 249", "money 0 0 -> -2", "undo -> 7", "tax 0 99 -> 0",
        "pay 0 8350 -> 250", "money 0 0 -> -1", "make 0 1 -> 4", "held 0 0 -> 4", "money 0 0 -> -1", "ofFund 0 5 -> 333",
        "undo -> 7", "take 0 1 -> 2", "held 0 0 -> 2", "money 0 0 -> 0", "ofFund 0 5 -> 666");
    // a floor each time: 2 / 3 and 2 / 3 are 1332
    edge(0, left, EdgeHelp.shares(3), "ofFund 0 5 -> 0", "split 0 4 3 -> 1333", "make 0 1 -> 4", "ofFund 0 5 -> 666",
        "make 0 4 -> 8", "ofFund 0 5 -> 666", "take 0 8 -> 0", "ofFund 0 5 -> 666", "make 0 3 -> 3", "ofFund 0 5 -> 666",
        "trade 0 -> 1", "split 0 4 3 -> 1777", "make 0 1 -> 4", "ofFund 0 5 -> 1332");
  }

  private static void trade() {
    String[] three = {
      "paper 100 100 0 10 -> 0", "paper 100 100 0 10 -> 1", "paper 100 100 0 10 -> 2", "index 1 3 0 100 -1 false -> 0",
      "fund 0 0 1 1 -> 0", "fund 0 0 3 1 -> 1", "fund 0 0 8 1 -> 2", "make 0 1 -> 1", "make 1 1 -> 1", "make 2 1 -> 1",
      "review 0 -> 1", "next -> 1",
    };
    edge(0, "with a SAMPLE just of so many of its papers that are worth most (HOLDING * PRICE; of several the smallest"
        + " numbers)", three,
        "trade 0 -> 1", "held 0 0 -> 100", "trade 1 -> 3", "held 1 0 -> 33", "held 1 2 -> 33", "money 1 0 -> 10",
        "trade 2 -> 3", "held 2 2 -> 33", "next -> 2", "price 2 2 11 -> 1", "trade 0 -> 2", "held 0 0 -> 0",
        "held 0 2 -> 90", "money 0 0 -> 10", "undo -> 7", "price 1 2 11 -> 1", "trade 0 -> 2", "held 0 1 -> 90",
        "held 0 2 -> 0");
    edge(0, "SAMPLE (how many papers it holds at most; 0 for all)",
        "paper 80 100 0 10 -> 0", "paper 81 100 0 10 -> 1", "paper 82 100 0 10 -> 2", "paper 83 100 0 10 -> 3",
        "index 1 4 0 100 -1 false -> 0", "fund 0 0 0 1 -> 0", "fund 0 0 2 1 -> 1", "fund 0 0 4 1 -> 2", "make 0 1 -> 1",
        "make 1 1 -> 1", "make 2 1 -> 1", "review 0 -> 1", "next -> 1", "trade 0 -> 4", "trade 1 -> 2", "trade 2 -> 4",
        "ofFund 0 6 -> 4", "ofFund 1 6 -> 2", "ofFund 2 6 -> 4", "held 1 0 -> 50", "held 1 1 -> 50", "held 1 2 -> 0",
        // what came of a SPIN counts as a paper of the BASKET, too
        "spin 3 1 1 10 -> 4", "trade 1 -> 0", "trade 0 -> 0", "ofFund 0 6 -> 5", "ofFund 2 6 -> 5", "trade 2 -> 5",
        "ofFund 2 6 -> 4");
    edge(0, "(0, if WORTH is not above 0)", WORTH_1, "trade 0 -> 1", "held 0 0 -> 0", "money 0 0 -> 1");
    edge(0, "(0, if WORTH is not above 0)", WORTH_0, "would 0 -> 0:-20", "trade 0 -> 1", "held 0 0 -> 0",
        "money 0 0 -> 0", "trade 0 -> 0");
    edge(0, "(0, if WORTH is not above 0)", WORTH_BELOW_0, "would 0 -> 0:-21", "trade 0 -> 1", "held 0 0 -> 0",
        "money 0 0 -> -1", "trade 0 -> 0");
    edge(0, "(0, if WORTH is not above 0)",
        "paper 1 100 0 1 -> 0", "index 0 1 0 100 -1 true -> 0", "fund 0 0 0 1 -> 0", "review 0 -> 1", "next -> 1",
        "would 0 ->", "trade 0 -> 0", "ofFund 0 7 -> 0");
    // a WORTH that is one coin buys a paper at 1, and none at 2
    edge(0, "of each its new HOLDING is LOTS times the floor of WORTH * (its HOLDING in the BASKET) / (what these"
        + " together are worth there) / LOTS", WORTH_1,
        "next -> 2", "price 0 2 1 -> 1", "money 0 1 -> -19979", "trade 0 -> 1", "held 0 0 -> 0", "money 0 0 -> -19979");
    edge(0, "of each its new HOLDING is LOTS times the floor of WORTH * (its HOLDING in the BASKET) / (what these"
        + " together are worth there) / LOTS",
        "paper 1000 100 0 10 -> 0", "index 1 1 0 100 -1 false -> 0", "fund 0 0 0 100 -> 0", "fund 0 0 0 1 -> 1",
        "make 0 2 -> 2", "make 1 2 -> 2", "review 0 -> 1", "next -> 1", "trade 0 -> 1", "trade 1 -> 1",
        "held 0 0 -> 200", "money 0 0 -> 0", "price 0 1 11 -> 1", "held 0 0 -> 100", "money 0 0 -> 900",
        "held 1 0 -> 181", "price 0 1 20 -> 1", "held 0 0 -> 100", "money 0 0 -> 0", "price 0 1 21 -> 1",
        "held 0 0 -> 0", "money 0 0 -> 2000", "held 1 0 -> 95", "price 0 1 2000 -> 1", "held 1 0 -> 1",
        "price 0 1 2001 -> 1", "held 1 0 -> 0", "ofFund 1 7 -> 0");
    edge(0, "What is left is money.", EdgeHelp.shares(3), "pay 0 333 -> 999", "trade 0 -> 0", "money 0 0 -> 999",
        "tax 0 99 -> 0", "pay 0 34 -> 1", "money 0 0 -> 1000", "trade 0 -> 1", "held 0 0 -> 4", "money 0 0 -> 0",
        "rights 0 1 4 1001 -> 1250", "money 0 0 -> -1001", "trade 0 -> 1", "held 0 0 -> 3", "money 0 0 -> 999");
    edge(0, "and LOTS (1 to 100).", "paper 1 100 0 1 -> 0", "index 0 1 0 100 -1 false -> 0", "fund 0 0 0 0 -> IAE",
        "fund 0 0 0 1 -> 0", "fund 0 0 0 100 -> 1", "fund 0 0 0 101 -> IAE", "make 0 1 -> 1", "make 1 1 -> 1",
        "review 0 -> 1", "next -> 1", "trade 0 -> 1", "trade 1 -> 1", "held 0 0 -> 1000", "held 1 0 -> 1000",
        "price 0 1 11 -> 1", "held 0 0 -> 90", "held 1 0 -> 0");
    edge(0, "TOUCHED: how many PAPERS have another HOLDING then.", three,
        "ofFund 1 7 -> 0", "trade 1 -> 3", "trade 1 -> 0", "ofFund 1 7 -> 0", "price 0 1 11 -> 1", "ofFund 1 7 -> 0",
        "next -> 2", "trade 1 -> 0", "price 2 2 40 -> 1", "held 1 2 -> 32", "ofFund 1 7 -> 0", "next -> 3",
        "trade 1 -> 0", "split 2 1 5 -> 20", "held 1 2 -> 6", "money 1 0 -> 24");
    // of all others 0
    edge(0, "of all others 0.",
        "paper 20 100 0 10 -> 0", "paper 10 100 0 10 -> 1", "index 0 1 0 100 -1 false -> 0", "fund 0 0 0 1 -> 0",
        "make 0 1 -> 1", "review 0 -> 1", "next -> 1", "trade 0 -> 1", "count 1 21 -> 10", "review 0 -> 1", "next -> 2",
        "would 0 -> 0:-100 1:100", "trade 0 -> 2", "held 0 0 -> 0", "held 0 1 -> 100");
  }

  private static void fee() {
    String fee = "WORTH * FEE is added to what is CARRIED (0 at first; nothing, if WORTH is below 0); the floor of that by"
        + " 3650000 goes off the money, and the rest is CARRIED on.";
    // just 3650000, and 1000 less
    edge(0, fee, "index 0 1 0 100 -1 false -> 0", "fund 0 365 0 1 -> 0", "fund 0 1 0 1 -> 1", "fund 0 1 0 1 -> 2",
        "make 0 10 -> 10", "make 1 3650 -> 3650", "make 2 3649 -> 3649", "ofFund 0 8 -> 0", "next -> 1",
        "money 0 0 -> 9999", "money 0 2 -> 1", "ofFund 0 8 -> 0", "money 1 0 -> 3649999", "money 1 2 -> 1",
        "ofFund 1 8 -> 0", "money 2 0 -> 3649000", "money 2 2 -> 0", "ofFund 2 8 -> 3649000", "next -> 2",
        // 9999 * 365 and 3649999 are both just below it
        "money 0 0 -> 9999", "ofFund 0 8 -> 3649635", "money 1 0 -> 3649999", "ofFund 1 8 -> 3649999",
        "money 1 2 -> 1", "money 2 0 -> 3648999", "ofFund 2 8 -> 3648000", "next -> 3", "money 1 0 -> 3649998",
        "ofFund 1 8 -> 3649998", "money 1 2 -> 2");
    edge(0, fee, EdgeHelp.join(new String[] {"index 0 1 0 100 -1 false -> 0", "fund 0 0 0 1 -> 0"},
        "make 0 9999 -> 9999", "next -> 1", "money 0 0 -> 9999000", "ofFund 0 8 -> 0", "money 0 2 -> 0"));
    // of a fund that is worth 0 or less nothing goes off, and what is CARRIED stays
    edge(0, fee,
        "paper 1000 100 0 1000 -> 0", "index 0 1 0 100 -1 true -> 0", "fund 0 999 0 1 -> 0", "make 0 10 -> 10",
        "review 0 -> 1", "next -> 1", "money 0 2 -> 2", "ofFund 0 8 -> 2690000", "trade 0 -> 1", "held 0 0 -> 9",
        "money 0 0 -> 998", "rights 0 1 9 10999 -> 1111", "money 0 1 -> -1", "next -> 2", "ofFund 0 8 -> 2690000",
        "money 0 1 -> -1", "undo -> 7", "undo -> 6", "rights 0 1 9 10998 -> 1111", "money 0 1 -> 0", "next -> 2",
        "ofFund 0 8 -> 2690000", "undo -> 7", "undo -> 6", "rights 0 1 9 10997 -> 1111", "money 0 1 -> 1", "next -> 2",
        "ofFund 0 8 -> 2690999", "money 0 2 -> 2");
  }

  private static void lent() {
    edge(0, "A part of a HOLDING can be LENT, in percent (0 at first):", EdgeHelp.shares(100), "votes 0 true -> 100",
        "collateral 0 -> 0", "lend 0 0 1 -> 0", "votes 0 true -> 99", "spin 0 1 1 1 -> 1", "votes 1 true -> 100",
        "lend 0 1 100 -> 0", "votes 1 true -> 0", "undo -> 7", "undo -> 6", "paper 1 1 0 1 -> 1", "lend 0 1 5 -> 0");
    edge(0, "COLLATERAL: for all that a FUND has LENT", EdgeHelp.shares(100), "fund 0 0 0 1 -> 1", "make 1 100 -> 100",
        "trade 1 -> 1", "lend 1 0 100 -> 0", "collateral 0 -> 0", "collateral 1 -> 105000", "lend 0 0 1 -> 0",
        "collateral 0 -> 1050",
        // what is no longer held is no longer LENT
        "merge 0 0 1 1 -> IAE", "take 1 100 -> 0", "collateral 1 -> 0", "paper 1 1 0 1 -> 1", "merge 0 1 1 1 -> 1001",
        "collateral 0 -> 0");
    edge(0, "LENT is the floor of HOLDING * percent / 100.", EdgeHelp.shares(101),
        "lend 0 0 0 -> 0", "votes 0 true -> 101", "lend 0 0 1 -> 0", "votes 0 true -> 100", "lend 0 0 99 -> 1",
        "votes 0 true -> 2", "lend 0 0 100 -> 99", "votes 0 true -> 0", "split 0 1 2 -> 500", "held 0 0 -> 50",
        "votes 0 true -> 0", "lend 0 0 1 -> 100", "votes 0 true -> 50", "collateral 0 -> 0", "lend 0 0 2 -> 1",
        "votes 0 true -> 49", "collateral 0 -> 1050");
    edge(0, "VOTES of a PAPER: what FUNDS hold of it and have not LENT.", EdgeHelp.shares(3),
        "fund 0 0 0 1 -> 1", "make 1 4 -> 4", "votes 0 true -> 3", "trade 1 -> 1", "votes 0 true -> 7",
        "lend 1 0 50 -> 0", "votes 0 true -> 5", "lend 0 0 100 -> 0", "votes 0 true -> 2", "lend 1 0 100 -> 50",
        "votes 0 true -> 0", "votes 0 false -> 7");
    // 1.05 each is 2 each; 20 * 1.05 is just 21
    edge(0, "the ceiling of LENT * PRICE * 105 / 100, PAPER by PAPER.", EdgeHelp.shares(1),
        "spin 0 1 1 1 -> 1", "spin 0 1 1 1 -> 2", "collateral 0 -> 0", "lend 0 1 100 -> 0", "collateral 0 -> 2",
        "lend 0 2 100 -> 0", "collateral 0 -> 4", "split 1 20 1 -> 20000", "collateral 0 -> 23", "price 1 1 20 -> 1",
        "collateral 0 -> 422", "lend 0 1 99 -> 100", "collateral 0 -> 401", "lend 0 0 100 -> 0", "collateral 0 -> 1451");
  }

  private static void error() {
    String error = "for each two DAYS that ended, one behind the other, at whose ends it had UNITS, WORTH and its index a"
        + " LEVEL, all above 0:";
    // TODAY has not ended; a third is rounded down on both sides of 0
    edge(0, error, COINS, "error 0 -> 0", "price 0 1 3 -> 1", "error 0 -> 0", "next -> 2", "level 0 1 -> 300000",
        "error 0 -> 490000000000", "price 0 2 1 -> 1", "error 0 -> 490000000000", "next -> 3",
        "error 0 -> 934443555556", "undo -> 7", "price 0 2 4 -> 1", "next -> 3",
        // 1 - 4 / 3
        "error 0 -> 601111555556");
    // a DAY without UNITS, first and in between
    edge(0, error,
        "paper 1000 100 0 10 -> 0", "index 1 1 0 100 -1 false -> 0", "fund 0 0 0 1 -> 0", "review 0 -> 1", "next -> 1",
        "price 0 1 20 -> 1", "make 0 1 -> 1", "next -> 2", "error 0 -> 0", "price 0 2 10 -> 1", "next -> 3",
        "error 0 -> 250000000000", "take 0 1 -> 0", "price 0 3 20 -> 1", "next -> 4", "make 0 1 -> 1",
        "price 0 4 40 -> 1", "next -> 5", "error 0 -> 250000000000", "price 0 5 20 -> 1", "next -> 6",
        "error 0 -> 500000000000");
    // a DAY with WORTH 0, below 0, and 1
    edge(0, error, WORTH_0, "next -> 2", "error 0 -> 0", "price 0 2 1001 -> 1", "money 0 1 -> 20", "next -> 3",
        "error 0 -> 0", "next -> 4", "error 0 -> 0", "price 0 3 1002 -> 2", "money 0 1 -> 40",
        // 40 over 20, less 668001 over 667334
        "error 0 -> 998001000000");
    edge(0, error, WORTH_BELOW_0, "next -> 2", "next -> 3", "error 0 -> 0");
    edge(0, error, WORTH_1, "error 0 -> 0", "level 0 1 -> 666700", "next -> 2",
        // 1 / 10000 - 0.6667
        "error 0 -> 444355560000");
    // a DAY without a LEVEL
    edge(0, error,
        "paper 1000 100 0 10 -> 0", "index 1 1 0 100 -1 false -> 0", "fund 0 0 0 1 -> 0", "make 0 1 -> 1", "next -> 1",
        "next -> 2", "error 0 -> 0", "review 0 -> 1", "next -> 3", "error 0 -> 0", "price 0 3 11 -> 1", "next -> 4",
        "error 0 -> 10000000000");
    // a DAY with a LEVEL of 0
    edge(0, error,
        "paper 1000 100 0 99999 -> 0", "index 1 1 0 100 -1 false -> 0", "fund 0 0 0 1 -> 0", "make 0 1 -> 1",
        "review 0 -> 1", "next -> 1", "price 0 1 1 -> 1", "level 0 1 -> 10", "next -> 2", "error 0 -> 999980000100",
        "split 0 1 20 -> 50", "level 0 2 -> 1", "next -> 3", "error 0 -> 1809980000100", "split 0 1 20 -> 2",
        "level 0 3 -> 0", "next -> 4", "error 0 -> 1809980000100", "next -> 5", "error 0 -> 1809980000100");
    // each m is squared for itself
    edge(0, "as at the end of the first one - the same of LEVEL); the sum of m * m.", COINS, "price 0 1 11 -> 1",
        "next -> 2", "error 0 -> 10000000000", "price 0 2 22 -> 1", "next -> 3", "error 0 -> 1010000000000",
        "price 0 3 11 -> 1", "next -> 4", "error 0 -> 1260000000000", "next -> 5", "error 0 -> 1260000000000",
        // 1 - 10 / 11 and 1 - 9 / 10
        "price 0 5 10 -> 1", "next -> 6", "price 0 6 9 -> 1", "next -> 7", "error 0 -> 1278264446281");
    edge(0, "m as the floor of 1000000 *", COINS, "price 0 1 9 -> 1", "next -> 2", "error 0 -> 10000000000",
        "price 0 2 10 -> 1", "next -> 3",
        // 1 - 10 / 9 is 111111.1 below 0
        "error 0 -> 22345876544");
    edge(0, "(how many times as much WORTH of a unit is at the end of the later one (behind FEE)", COINS,
        // units that come count for themselves
        "make 0 1 -> 2", "next -> 2", "error 0 -> 0", "take 0 1 -> 1", "next -> 3", "error 0 -> 0");
  }

  private static void doneStaysDone() {
    String done = "told anew by other PRICES, MAKE and TAKE go by what is told here, also if they would be REFUSED by"
        + " these; a TRADE without a BASKET does nothing.";
    // at 500 there are 20 held, and 20 more for 2000 each, which is worth less than nothing
    edge(0, done, EdgeHelp.shares(10), "rights 0 1 1 1500 -> 2000", "money 0 1 -> 5000", "make 0 1 -> 11",
        "held 0 0 -> 22", "money 0 0 -> -16500", "take 0 2 -> 9", "held 0 0 -> 18", "price 0 1 500 -> 1",
        "held 0 0 -> 36", "ofFund 0 4 -> 9", "money 0 0 -> -27000", "money 0 1 -> -9000", "make 0 1 -> -9",
        "take 0 1 -> -9", "isSound -> true", "undo -> 7", "money 0 1 -> 4500", "make 0 1 -> 10");
    // a price by which WORTH is just 0
    edge(0, done, EdgeHelp.shares(10), "next -> 2", "rights 0 1 1 1000 -> 2000", "make 0 1 -> 11", "price 0 2 500 -> 1",
        "money 0 1 -> 0", "ofFund 0 4 -> 11", "held 0 0 -> 22", "money 0 0 -> -11000", "make 0 1 -> -9",
        "take 0 11 -> -9", "trade 0 -> 1", "isSound -> true");
    edge(0, done,
        "paper 10 100 0 10 -> 0", "paper 10 100 1 9 -> 1", "index 0 1 0 100 -1 false -> 0",
        "index 0 1 0 100 0 false -> 1", "part 1 0 -> -1", "fund 1 0 0 1 -> 0", "make 0 1 -> 1", "review 0 -> 1",
        "review 1 -> 2", "next -> 1", "trade 0 -> 1", "ofFund 0 7 -> 1", "price 0 0 8 -> 2", "held 0 0 -> 0",
        "money 0 0 -> 1000", "ofFund 0 7 -> 0", "trade 0 -> -9", "isSound -> true", "price 0 0 9 -> 2",
        "held 0 0 -> 111", "ofFund 0 7 -> 1");
    edge(0, "then the next DAY is TODAY.", EdgeHelp.shares(3), "house 0 -> 1", "price 0 2 7 -> IAE", "next -> 2",
        "house 0 -> 2", "price 0 2 7 -> 1", "priceOn 0 1 -> 1000", "money 0 1 -> 21");
    edge(0, "The END of a DAY: first LEVELS, then FEES, then REVIEWS that are due, by the numbers of indexes;",
        "paper 20 100 0 10 -> 0", "paper 10 100 0 10 -> 1", "index 0 1 0 100 -1 false -> 0",
        "index 0 1 0 100 -1 false -> 1", "part 1 0 -> -1", "fund 0 999 0 1 -> 0", "make 0 9999 -> 9999",
        "review 1 -> 1", "review 0 -> 2", "next -> 1", "why 1 -> ok", "members 1 -> 0", "count 1 30 -> 10",
        "price 0 1 12 -> 2", "review 0 -> 1", "review 1 -> 2", "next -> 2", "level 0 1 -> 1200000",
        "level 1 1 -> 1200000", "members 0 -> 1", "members 1 -> 1", "money 0 2 -> 5472", "level 0 2 -> 1200000");
  }

  // ---- promises

  private static void fund() {
    edge(16, "Returns its number.", "index 0 1 0 100 -1 false -> 0", "fund 0 0 0 1 -> 0", "fund 0 0 0 1 -> 1",
        "fund 0 0 0 1 -> 2", "house 3 -> 3");
    edge(16, "if there is no such INDEX", "fund 0 0 0 1 -> IOOBE", "index 0 1 0 100 -1 false -> 0",
        "fund -1 0 0 1 -> IOOBE", "fund 0 0 0 1 -> 0", "fund 1 0 0 1 -> IOOBE", "index 0 1 0 100 -1 false -> 1",
        "fund 1 0 0 1 -> 1", "fund 2 0 0 1 -> IOOBE", "fund " + LEAST + " 0 0 1 -> IOOBE",
        "fund " + MOST + " 0 0 1 -> IOOBE", "ofFund 0 0 -> 0", "ofFund 1 0 -> 1");
    edge(16, "if fee is not 0 to 999, sample not 0 to 8, or lots not 1 to 100", "index 0 1 0 100 -1 false -> 0",
        "fund 0 -1 0 1 -> IAE", "fund 0 0 0 1 -> 0", "fund 0 999 8 100 -> 1", "fund 0 1000 0 1 -> IAE",
        "fund 0 0 -1 1 -> IAE", "fund 0 0 9 1 -> IAE", "fund 0 0 0 0 -> IAE", "fund 0 0 0 101 -> IAE",
        "fund 0 " + LEAST + " 0 1 -> IAE", "fund 0 " + MOST + " 0 1 -> IAE", "fund 0 0 " + LEAST + " 1 -> IAE",
        "fund 0 0 " + MOST + " 1 -> IAE", "fund 0 0 0 " + LEAST + " -> IAE", "fund 0 0 0 " + MOST + " -> IAE",
        "house 3 -> 2", "ofFund 0 1 -> 0", "ofFund 0 2 -> 0", "ofFund 0 3 -> 1", "ofFund 1 1 -> 999", "ofFund 1 2 -> 8",
        "ofFund 1 3 -> 100");
    edge(16, "if there are 3", "index 0 1 0 100 -1 false -> 0", "fund 0 0 0 1 -> 0", "fund 0 0 0 1 -> 1",
        "fund 0 2 0 1 -> 2", "fund 0 0 0 1 -> ISE", "fund 0 -1 0 1 -> IAE", "fund 1 0 0 1 -> IOOBE", "house 3 -> 3",
        "undo -> 3", "fund 0 3 0 1 -> 2", "ofFund 2 1 -> 3", "fund 0 0 0 1 -> ISE");
  }

  private static void make() {
    String returns = "Returns UNITS then; -9, if there are UNITS, but WORTH is not above 0, or there were more than 99999"
        + " UNITS then.";
    edge(17, returns, WORTH_0, "make 0 1 -> -9", "make 0 9999 -> -9", "ofFund 0 4 -> 10", "house 4 -> 8");
    edge(17, returns, WORTH_BELOW_0, "make 0 1 -> -9", "make 0 9999 -> -9", "ofFund 0 4 -> 10");
    edge(17, returns, WORTH_1, "make 0 1 -> 11", "money 0 1 -> 2", "make 0 9999 -> 10010");
    // one UNIT is UNITS, too
    edge(17, returns, EdgeHelp.shares(1), "rights 0 1 1 2000 -> 2000", "money 0 1 -> 0", "make 0 1 -> -9",
        "take 0 1 -> -9", "pay 0 1 -> 2", "make 0 1 -> 2");
    // without UNITS it does not matter what it is worth
    edge(17, returns, "index 0 1 0 100 -1 false -> 0", "fund 0 0 0 1 -> 0", "money 0 1 -> 0", "make 0 1 -> 1",
        "take 0 1 -> 0", "money 0 1 -> 0", "make 0 9999 -> 9999");
    String[] many = new String[12];
    many[0] = "index 0 1 0 100 -1 false -> 0";
    many[1] = "fund 0 0 0 1 -> 0";
    for (int i = 1; i <= 10; i++) {
      many[i + 1] = "make 0 9999 -> " + i * 9999;
    }
    edge(17, returns, many, "make 0 10 -> -9", "ofFund 0 4 -> 99990", "make 0 9999 -> -9", "house 4 -> 8",
        "make 0 9 -> 99999", "make 0 1 -> -9", "make 0 9999 -> -9", "ofFund 0 4 -> 99999", "money 0 0 -> 99999000",
        "undo -> 7", "make 0 10 -> -9", "make 0 8 -> 99998", "make 0 2 -> -9", "make 0 1 -> 99999",
        "take 0 9999 -> 90000", "make 0 9999 -> 99999", "make 0 1 -> -9");
    edgeOfNumber(17, "if there is no such FUND", "make # 1", "1");
    edge(17, "if units is not 1 to 9999", "index 0 1 0 100 -1 false -> 0", "fund 0 0 0 1 -> 0", "make 0 0 -> IAE",
        "make 0 1 -> 1", "make 0 9999 -> 10000", "make 0 10000 -> IAE", "make 0 -1 -> IAE", "make 0 " + LEAST + " -> IAE",
        "make 0 " + MOST + " -> IAE", "ofFund 0 4 -> 10000");
    edge(17, "if units is not 1 to 9999", WORTH_0, "make 0 0 -> IAE", "make 0 10000 -> IAE", "make 1 1 -> IOOBE");
  }

  private static void take() {
    String returns = "Returns UNITS then; -9, if there are not so many, or WORTH is not above 0.";
    edge(18, returns, EdgeHelp.shares(10), "take 0 11 -> -9", "take 0 10 -> 0", "take 0 1 -> -9", "undo -> 7",
        "take 0 9 -> 1", "take 0 2 -> -9", "take 0 1 -> 0", "take 0 1 -> -9", "house 4 -> 8");
    edge(18, returns, "index 0 1 0 100 -1 false -> 0", "fund 0 0 0 1 -> 0", "take 0 1 -> -9", "take 0 9999 -> -9",
        "make 0 9999 -> 9999", "take 0 9999 -> 0", "house 4 -> 4");
    edge(18, returns, WORTH_0, "take 0 1 -> -9", "take 0 10 -> -9", "take 0 11 -> -9", "ofFund 0 4 -> 10",
        "house 4 -> 8");
    edge(18, returns, WORTH_BELOW_0, "take 0 1 -> -9", "take 0 10 -> -9", "ofFund 0 4 -> 10");
    edge(18, returns, WORTH_1, "take 0 10 -> 0", "money 0 0 -> 0", "held 0 0 -> 0", "undo -> 7", "take 0 1 -> 9");
    edgeOfNumber(18, "if there is no such FUND", "take # 1", "-9");
    edge(18, "if units is not 1 to 9999", "index 0 1 0 100 -1 false -> 0", "fund 0 0 0 1 -> 0", "make 0 9999 -> 9999",
        "make 0 9999 -> 19998", "take 0 0 -> IAE", "take 0 10000 -> IAE", "take 0 1 -> 19997", "take 0 9999 -> 9998",
        "take 0 -1 -> IAE", "take 0 " + LEAST + " -> IAE", "take 0 " + MOST + " -> IAE", "ofFund 0 4 -> 9998");
    edge(18, "if units is not 1 to 9999", WORTH_0, "take 0 0 -> IAE", "take 0 10000 -> IAE", "take 1 1 -> IOOBE");
  }

  private static void tradeAndLend() {
    edge(19, "Returns TOUCHED; -9, if its INDEX has no BASKET in force.",
        "paper 5 100 0 10 -> 0", "index 0 1 0 100 -1 false -> 0", "fund 0 0 0 1 -> 0", "trade 0 -> -9", "make 0 1 -> 1",
        "review 0 -> 1", "trade 0 -> -9", "house 4 -> 5", "next -> 1", "trade 0 -> 1", "trade 0 -> 0", "house 4 -> 8",
        "undo -> 7", "undo -> 6", "undo -> 5", "trade 0 -> -9", "undo -> 4", "next -> 1", "trade 0 -> -9");
    // a REVIEW that is not "ok" leaves none; another index has one
    edge(19, "Returns TOUCHED; -9, if its INDEX has no BASKET in force.",
        "paper 5 100 0 10 -> 0", "index 0 1 0 100 -1 false -> 0", "index 2 1 0 99 -1 false -> 1", "fund 0 0 0 1 -> 0",
        "fund 1 0 0 1 -> 1", "make 0 1 -> 1", "make 1 1 -> 1", "review 0 -> 1", "review 1 -> 2", "next -> 1",
        "trade 0 -> 1", "trade 1 -> -9");
    edgeOfNumber(19, "if there is no such FUND", "trade #", "-9");
    edge(20, "Returns the one before.", EdgeHelp.shares(1), "lend 0 0 0 -> 0", "lend 0 0 7 -> 0", "lend 0 0 7 -> 7",
        "undo -> 7", "undo -> 6", "lend 0 0 9 -> 0", "fund 0 0 0 1 -> 1", "lend 1 0 5 -> 0", "lend 0 0 8 -> 9",
        "paper 1 1 0 1 -> 1", "lend 0 1 3 -> 0", "lend 0 0 1 -> 8",
        // also of one that is GONE
        "merge 1 0 1 1 -> 1001", "lend 0 1 4 -> 3");
    edge(20, "if there is no such FUND or PAPER", "lend 0 0 1 -> IOOBE", "paper 1 1 0 1 -> 0", "lend 0 0 1 -> IOOBE",
        "index 0 1 0 100 -1 false -> 0", "fund 0 0 0 1 -> 0", "lend -1 0 1 -> IOOBE", "lend 0 -1 1 -> IOOBE",
        "lend 0 0 1 -> 0", "lend 1 0 1 -> IOOBE", "lend 0 1 1 -> IOOBE", "lend " + LEAST + " 0 1 -> IOOBE",
        "lend " + MOST + " 0 1 -> IOOBE", "lend 0 " + LEAST + " 1 -> IOOBE", "lend 0 " + MOST + " 1 -> IOOBE",
        "fund 0 0 0 1 -> 1", "paper 1 1 0 1 -> 1", "lend 1 1 1 -> 0", "lend 2 1 1 -> IOOBE", "lend 1 2 1 -> IOOBE");
    edge(20, "if there is no such FUND or PAPER", "index 0 1 0 100 -1 false -> 0", "fund 0 0 0 1 -> 0",
        "lend 0 0 1 -> IOOBE", "lend 0 0 101 -> IOOBE");
    edge(20, "if percent is not 0 to 100", EdgeHelp.shares(100), "lend 0 0 -1 -> IAE", "lend 0 0 0 -> 0",
        "lend 0 0 100 -> 0", "lend 0 0 101 -> IAE", "lend 0 0 " + LEAST + " -> IAE", "lend 0 0 " + MOST + " -> IAE",
        "votes 0 true -> 0", "lend 0 0 0 -> 100");
  }

  private static void ofFund() {
    edge(37, "Returns that.", EdgeHelp.shares(7),
        "ofFund 0 0 -> 0", "ofFund 0 1 -> 0", "ofFund 0 2 -> 0", "ofFund 0 3 -> 1", "ofFund 0 4 -> 7", "ofFund 0 5 -> 0",
        "ofFund 0 6 -> 1", "ofFund 0 7 -> 1", "ofFund 0 8 -> 0", "index 0 1 0 100 -1 false -> 1",
        "fund 1 999 8 100 -> 1", "ofFund 1 0 -> 1", "ofFund 1 1 -> 999", "ofFund 1 2 -> 8", "ofFund 1 3 -> 100",
        "ofFund 1 4 -> 0", "ofFund 1 5 -> 0", "ofFund 1 6 -> 0", "ofFund 1 7 -> 0", "ofFund 1 8 -> 0",
        // what it holds some of: two, and one of both again
        "spin 0 1 1 1 -> 1", "ofFund 0 6 -> 2", "merge 1 0 1 20 -> 1050", "ofFund 0 6 -> 1", "split 0 1 8 -> 131",
        "held 0 0 -> 0", "ofFund 0 6 -> 0");
    edgeOfNumber(37, "if there is no such FUND", "ofFund # 0", "0");
    edge(37, "if what is not 0 to 8", EdgeHelp.shares(1), "ofFund 0 -1 -> IAE", "ofFund 0 0 -> 0", "ofFund 0 8 -> 0",
        "ofFund 0 9 -> IAE", "ofFund 0 " + LEAST + " -> IAE", "ofFund 0 " + MOST + " -> IAE");
  }

  private static void money() {
    edge(38, "Returns that, as digits (\"-\" ahead, if it is below 0).", WORTH_1, "money 0 0 -> -19999", "money 0 1 -> 1",
        "money 0 2 -> 0", "rights 0 1 20 1001 -> 2100", "money 0 0 -> -21000", "money 0 1 -> 0",
        "rights 0 1 20 1001 -> 2205", "money 0 0 -> -22001", "money 0 1 -> -1");
    // more than a long holds
    edge(38, "Returns that, as digits (\"-\" ahead, if it is below 0).",
        "paper 1000 100 0 1 -> 0", "index 0 1 0 100 -1 true -> 0", "fund 0 0 0 1 -> 0", "make 0 9999 -> 9999",
        "review 0 -> 1", "next -> 1", "trade 0 -> 1", "held 0 0 -> 9999000", "pay 0 99999 -> 999890001000",
        "trade 0 -> 1", "held 0 0 -> 999900000000", "pay 0 99999 -> 99989000100000000", "trade 0 -> 1",
        "held 0 0 -> 99990000000000000", "pay 0 99999 -> 9998900010000000000000", "money 0 0 -> 9998900010000000000000",
        "money 0 1 -> 9999000000000000000000", "rights 0 1 1 99999 -> 2000", "money 0 0 -> 0",
        "money 0 1 -> 199980000000000000");
    edgeOfNumber(38, "if there is no such FUND", "money # 0", "0");
    edge(38, "if what is not 0 to 2", EdgeHelp.shares(1), "money 0 -1 -> IAE", "money 0 0 -> 0", "money 0 2 -> 0",
        "money 0 3 -> IAE", "money 0 " + LEAST + " -> IAE", "money 0 " + MOST + " -> IAE");
  }

  private static void heldAndUnit() {
    edge(39, "Returns its HOLDING as digits.", EdgeHelp.shares(1), "held 0 0 -> 1", "split 0 1 2 -> 500", "held 0 0 -> 0",
        "paper 1 1 0 1 -> 1", "held 0 1 -> 0", "take 0 1 -> 0", "held 0 0 -> 0");
    edge(39, "if there is no such FUND or PAPER", "held 0 0 -> IOOBE", "paper 1 1 0 1 -> 0", "held 0 0 -> IOOBE",
        "index 0 1 0 100 -1 false -> 0", "fund 0 0 0 1 -> 0", "held -1 0 -> IOOBE", "held 0 -1 -> IOOBE",
        "held 0 0 -> 0", "held 1 0 -> IOOBE", "held 0 1 -> IOOBE", "held " + LEAST + " 0 -> IOOBE",
        "held " + MOST + " 0 -> IOOBE", "held 0 " + LEAST + " -> IOOBE", "held 0 " + MOST + " -> IOOBE");
    edge(40, "Returns WORTH / UNITS as a FRACTION; \"-\" without UNITS.", EdgeHelp.shares(3), "unit 0 -> 1000/1",
        "pay 0 1 -> 3", "unit 0 -> 1001/1", "split 0 1 2 -> 500", "unit 0 -> 501/1", "take 0 1 -> 2", "unit 0 -> 501/1",
        "take 0 2 -> 0", "unit 0 -> -", "make 0 9 -> 9", "unit 0 -> 1000/1");
    edge(40, "Returns WORTH / UNITS as a FRACTION; \"-\" without UNITS.", EdgeHelp.shares(1), "unit 0 -> 1000/1",
        "take 0 1 -> 0", "unit 0 -> -");
    edge(40, "Returns WORTH / UNITS as a FRACTION; \"-\" without UNITS.", WORTH_0, "unit 0 -> 0/1",
        "rights 0 1 20 1001 -> 2100", "unit 0 -> -1/10", "rights 0 1 20 1004 -> 2205", "unit 0 -> -1/2");
    edge(40, "Returns WORTH / UNITS as a FRACTION; \"-\" without UNITS.", WORTH_1, "unit 0 -> 1/10", "make 0 1 -> 11",
        "unit 0 -> 2/11");
    edge(0, "A FRACTION as a text: in lowest terms, its upper number, \"/\", its lower number (above 0); \"-\" ahead, if it"
        + " is below 0.", WORTH_0, "unit 0 -> 0/1", "rights 0 1 20 1006 -> 2100", "unit 0 -> -3/5",
        "rights 0 1 20 1004 -> 2205", "unit 0 -> -1/1");
    edgeOfNumber(40, "if there is no such FUND", "unit #", "-");
  }

  private static void would() {
    edge(41, "Returns what TRADE would do now: for each PAPER with another HOLDING then, rising: the number, \":\", by how"
        + " much it would be more (\"-\" ahead, if less), with \" \" between; \"-\", if its INDEX has no BASKET in force.",
        "paper 5 100 0 10 -> 0", "index 0 1 0 100 -1 false -> 0", "fund 0 0 0 1 -> 0", "would 0 -> -", "make 0 1 -> 1",
        "review 0 -> 1", "would 0 -> -", "next -> 1", "would 0 -> 0:100", "trade 0 -> 1", "would 0 ->", "pay 0 1 -> 100",
        "would 0 -> 0:10", "rights 0 1 20 25 -> 5", "would 0 -> 0:-3", "spin 0 1 5 10 -> 1", "would 0 -> 0:-3 1:-1",
        "take 0 1 -> 0", "would 0 ->");
    edgeOfNumber(41, "if there is no such FUND", "would #", "-");
  }

  private static void gain() {
    String returns = "Returns what one wins by a unit, if one makes or takes back one at its WORTH: the floor of the"
        + " difference of both, \"m\" behind it, if price is above WORTH of a unit (one makes it), \"t\", if it is below;"
        + " \"0\", if both are alike; \"-\" without UNITS.";
    edge(43, returns, EdgeHelp.shares(3), "gain 0 1000 -> 0", "gain 0 1001 -> 1m", "gain 0 999 -> 1t",
        // 1000 and two thirds
        "tax 0 33 -> 0", "pay 0 1 -> 2", "gain 0 1001 -> 0m", "gain 0 1000 -> 0t", "gain 0 1002 -> 1m",
        "gain 0 999 -> 1t", "gain 0 999999 -> 998998m", "gain 0 1 -> 999t", "take 0 3 -> 0", "gain 0 1000 -> -");
    edge(43, returns, WORTH_0, "gain 0 1 -> 1m", "gain 0 999999 -> 999999m", "rights 0 1 20 1001 -> 2100",
        // a tenth of a coin below 0
        "gain 0 1 -> 1m", "gain 0 999999 -> 999999m");
    edge(43, returns, WORTH_1, "gain 0 1 -> 0m", "gain 0 2 -> 1m");
    edgeOfNumber(43, "if there is no such FUND", "gain # 1", "-");
    edge(43, "if price is not 1 to 999999", EdgeHelp.shares(1), "gain 0 0 -> IAE", "gain 0 1 -> 999t",
        "gain 0 999999 -> 998999m", "gain 0 1000000 -> IAE", "gain 0 -1 -> IAE", "gain 0 " + LEAST + " -> IAE",
        "gain 0 " + MOST + " -> IAE", "take 0 1 -> 0", "gain 0 0 -> IAE", "gain 0 1 -> -");
  }

  private static void errorAndCollateral() {
    edge(42, "Returns ERROR as digits.", COINS, "error 0 -> 0", "price 0 1 99999 -> 1", "next -> 2",
        // 1 - 9999.9
        "error 0 -> 99978001210000000000", "price 0 1 10 -> 2", "error 0 -> 0");
    edgeOfNumber(42, "if there is no such FUND", "error #", "0");
    edge(44, "Returns COLLATERAL as digits.", EdgeHelp.shares(1), "collateral 0 -> 0", "lend 0 0 99 -> 0",
        "collateral 0 -> 0", "lend 0 0 100 -> 99", "collateral 0 -> 1050", "next -> 2", "price 0 2 99999 -> 1",
        "collateral 0 -> 104999", "price 0 2 1 -> 1", "collateral 0 -> 2");
    edgeOfNumber(44, "if there is no such FUND", "collateral #", "0");
  }
}
