/** Boundary cases of papers, sentence by sentence: "1. Papers", and promises 1 to 11 and 21 to 25. */
public final class PaperEdgesTest {
  private static final int LEAST = Integer.MIN_VALUE;
  private static final int MOST = Integer.MAX_VALUE;

  /** So many papers, all alike. */
  private static String[] papers(int n) {
    String[] all = new String[n];
    for (int p = 0; p < n; p++) {
      all[p] = "paper 5 50 1 5 -> " + p;
    }
    return all;
  }

  private PaperEdgesTest() {
  }

  public static void main(String[] args) {
    newObject();
    days();
    pricesOfDays();
    counts();
    gone();
    basketsAndFunds();
    paper();
    price();
    priceAnswers();
    countAndFree();
    split();
    pay();
    rights();
    spin();
    merge();
    next();
    ofPaper();
    priceOn();
    sizeAndVotes();
    rank();
    EdgeHelp.close("paper edges", 1, 2, 3, 4, 5, 6, 7, 8, 9, 10, 11, 21, 22, 23, 24, 25);
  }

  private static void edge(int promise, String sentence, String... script) {
    EdgeHelp.edge(promise, sentence, script);
  }

  private static void edge(int promise, String sentence, String[] start, String... script) {
    EdgeHelp.edge(promise, sentence, EdgeHelp.join(start, script));
  }

  private static void newObject() {
    edge(1, "Creates a keeper without papers, on the DAY 0.",
        "house 0 -> 0", "house 1 -> 0", "house 2 -> 0", "house 3 -> 0", "house 4 -> 0", "house 5 -> 0",
        "house 6 -> 0", "house 7 -> 0", "changed ->", "isSound -> true", "undo -> ISE", "ofPaper 0 0 -> IOOBE",
        "ofIndex 0 0 -> IOOBE", "ofFund 0 0 -> IOOBE",
        // 6903 * 31 to the power of 10, and 1
        "digest -> 5657894065028469304");
    edge(0, "Numbers of things start with 0.",
        "paper 1 1 0 1 -> 0", "index 0 1 0 10 -1 true -> 0", "fund 0 0 0 1 -> 0", "paper 1 1 0 1 -> 1",
        "index 0 1 0 10 -1 true -> 1", "fund 0 0 0 1 -> 1", "spin 0 1 1 1 -> 2");
  }

  private static void days() {
    String[] all = new String[40];
    for (int day = 0; day < 40; day++) {
      all[day] = "next -> " + (day + 1);
    }
    edge(0, "TODAY is a DAY (0 at first, 40 at most).",
        EdgeHelp.join(new String[] {"house 0 -> 0"}, all), "house 0 -> 40", "next -> ISE", "next -> ISE",
        "house 0 -> 40");
    // the last day is a day as all others are
    edge(0, "TODAY is a DAY (0 at first, 40 at most).",
        EdgeHelp.join(new String[] {"paper 10 100 0 10 -> 0", "index 0 1 0 100 -1 false -> 0", "review 0 -> 1"}, all),
        "level 0 40 -> 1000000", "price 0 40 25 -> 1", "level 0 40 -> 2500000", "changed -> 0:40",
        "paper 10 100 0 9 -> 1", "ofPaper 1 4 -> 40", "priceOn 1 39 -> -1", "priceOn 1 40 -> 9",
        "priceOn 1 41 -> IAE", "level 0 41 -> IAE", "next -> ISE", "isSound -> true", "undo -> 7",
        "undo -> 6", "level 0 40 -> 1000000", "undo -> 5", "house 0 -> 39", "next -> 40", "level 0 40 -> 1000000");
  }

  private static void pricesOfDays() {
    edge(0, "on a DAY from that one on it has the PRICE that is told for the last DAY up to it for which one is told",
        "next -> 1", "next -> 2", "paper 1 1 0 7 -> 0", "next -> 3", "next -> 4", "next -> 5", "next -> 6",
        "price 0 4 9 -> 0", "price 0 6 8 -> 0", "priceOn 0 1 -> -1", "priceOn 0 2 -> 7", "priceOn 0 3 -> 7",
        "priceOn 0 4 -> 9", "priceOn 0 5 -> 9", "priceOn 0 6 -> 8", "ofPaper 0 3 -> 8", "price 0 2 5 -> 0",
        "priceOn 0 2 -> 5", "priceOn 0 3 -> 5", "priceOn 0 4 -> 9", "next -> 7", "ofPaper 0 3 -> 8",
        // the price of its first day is told by paper(), and can be told anew
        "price 0 1 5 -> IAE", "price 0 7 1 -> 0", "price 0 7 2 -> 0", "ofPaper 0 3 -> 2", "priceOn 0 6 -> 8");
    edge(0, "SIZE of a PAPER: COUNT * FREE * PRICE (of TODAY).",
        "paper 1 1 0 1 -> 0", "size 0 -> 1", "paper 99999 100 0 99999 -> 1", "size 1 -> 999980000100",
        "split 1 20 1 -> 1999980", "split 1 20 1 -> 39999600", "split 1 20 1 -> 799992000",
        "split 1 20 1 -> 999999999", "size 1 -> 9999899990000100", "next -> 1", "price 1 1 1 -> 0",
        "size 1 -> 99999999900", "free 1 1 -> 100", "size 1 -> 999999999");
  }

  private static void counts() {
    edge(0, "PAPERS: at most 10, each with a KIND (0 to 3)", papers(9), "paper 1 1 4 1 -> IAE", "paper 1 1 -1 1 -> IAE",
        "paper 1 1 3 1 -> 9", "ofPaper 9 0 -> 3", "paper 1 1 0 1 -> ISE", "ofPaper 10 0 -> IOOBE", "spin 9 1 1 1 -> ISE");
    edge(0, "COUNT is 1 at least and 999999999 at most, whatever comes of it.",
        "paper 1 100 0 1 -> 0", "split 0 19 20 -> 1", "split 0 1 20 -> 1", "split 0 1 2 -> 1", "spin 0 1 2 1 -> 1",
        "ofPaper 1 1 -> 1", "spin 0 1 20 1 -> 2", "ofPaper 2 1 -> 1", "split 0 2 1 -> 2", "split 0 1 2 -> 1");
    // 999999999 itself is reached, and passed by one
    edge(0, "COUNT is 1 at least and 999999999 at most, whatever comes of it.",
        "paper 52631 100 0 1 -> 0", "split 0 19 1 -> 999989", "split 0 20 20 -> 999989", "paper 52631 100 0 1 -> 1",
        "count 1 99999 -> 52631", "rights 1 9 1 1 -> 999990", "rights 1 9 1 1 -> 9999900",
        "rights 1 9 1 1 -> 99999000", "rights 1 9 1 1 -> 999990000", "paper 9999 100 0 1 -> 2",
        "merge 2 1 1 1 -> 999999999", "split 1 20 20 -> 999999999", "rights 1 1 20 1 -> 999999999",
        "spin 1 20 1 1 -> 3", "ofPaper 3 1 -> 999999999", "spin 1 1 1 1 -> 4", "ofPaper 4 1 -> 999999999",
        "split 1 20 19 -> 999999999", "merge 3 1 20 1 -> 999999999", "merge 4 1 1 20 -> 999999999",
        "split 1 19 20 -> 949999999", "split 1 20 19 -> 999999998", "rights 1 20 20 1 -> 999999999");
    // one below 999999999 is no bound, one above it is
    edge(0, "COUNT is 1 at least and 999999999 at most, whatever comes of it.",
        "paper 99999 100 0 1 -> 0", "split 0 10 1 -> 999990", "split 0 10 1 -> 9999900", "split 0 10 1 -> 99999000",
        "split 0 10 1 -> 999990000", "paper 9998 100 0 1 -> 1", "paper 1 100 0 1 -> 2", "paper 1 100 0 1 -> 3",
        "merge 1 0 1 1 -> 999999998", "merge 2 0 1 1 -> 999999999", "merge 3 0 1 1 -> 999999999");
  }

  private static void gone() {
    edge(0, "A PAPER that was taken over is GONE from that DAY on.",
        "paper 10 100 0 10 -> 0", "paper 10 100 0 9 -> 1", "index 0 2 0 100 -1 false -> 0", "review 0 -> 1",
        "next -> 1", "house 7 -> 0", "ofPaper 1 5 -> 0", "rank 0 1 -> 2", "merge 1 0 1 1 -> 20", "house 7 -> 1",
        "ofPaper 1 5 -> 1", "rank 0 1 -> -1", "ofPaper 1 3 -> 9", "priceOn 1 0 -> 9", "size 1 -> 9000",
        // it stays a member until the next REVIEW
        "members 0 -> 0 1", "ofPaper 1 6 -> 1", "review 0 -> 1", "next -> 2", "members 0 -> 0", "ofPaper 1 6 -> 0",
        "ofPaper 1 5 -> 1", "undo -> 7", "undo -> 6", "undo -> 5", "ofPaper 1 5 -> 0", "house 7 -> 0");
  }

  private static void basketsAndFunds() {
    edge(0, "(where HOLDINGS are exact) and all FUNDS (where they are whole)", EdgeHelp.shares(1),
        // a third of a share, and a whole one again, but in the fund
        "split 0 1 3 -> 333", "held 0 0 -> 0", "money 0 0 -> 333", "split 0 3 1 -> 999", "level 0 1 -> 1000000",
        "held 0 0 -> 0", "split 0 1 20 -> 49", "split 0 1 19 -> 2", "split 0 20 1 -> 40", "split 0 19 1 -> 760",
        "level 0 1 -> 1000000", "part10000 0 0 -> 10000");
    edge(0, "money for the rest: the floor of the rest * PRICE.", EdgeHelp.shares(1),
        "next -> 2", "price 0 2 19 -> 1", "split 0 1 20 -> 50", "held 0 0 -> 0", "money 0 0 -> 0", "level 0 2 -> 950",
        // 20 / 20 is a coin, 39 / 20 is no more, 40 / 20 is two
        "price 0 2 20 -> 1", "money 0 0 -> 1", "price 0 2 39 -> 1", "money 0 0 -> 1", "price 0 2 40 -> 1",
        "money 0 0 -> 2", "price 0 2 1 -> 1", "money 0 0 -> 0", "level 0 2 -> 50");
    edge(0, "SPLIT a for b: COUNT becomes the floor of COUNT * a / b; a HOLDING h becomes h * a / b;", EdgeHelp.shares(19),
        "split 0 1 19 -> 52", "held 0 0 -> 1", "money 0 0 -> 0", "level 0 1 -> 52632", "split 0 19 18 -> 54",
        "held 0 0 -> 1", "money 0 0 -> 55", "level 0 1 -> 55556", "split 0 20 1 -> 1080", "split 0 1 20 -> 54",
        "held 0 0 -> 1", "level 0 1 -> 55556");
    edge(0, "money for the rest: the floor of the rest * PRICE.", EdgeHelp.shares(20),
        "split 0 1 20 -> 50", "held 0 0 -> 1", "money 0 0 -> 0", "split 0 19 20 -> 47", "held 0 0 -> 0",
        "money 0 0 -> 950");
    // a fund that holds none has nothing of it
    edge(0, "money for the rest: the floor of the rest * PRICE.",
        "paper 1000 100 0 1000 -> 0", "index 0 1 0 100 -1 true -> 0", "fund 0 0 0 1 -> 0", "make 0 1 -> 1",
        "split 0 1 20 -> 50", "money 0 0 -> 1000", "rights 0 20 1 99999 -> 1050", "money 0 0 -> 1000",
        "pay 0 99999 -> 0", "spin 0 1 3 5 -> 1", "merge 0 1 1 3 -> 700", "money 0 0 -> 1000", "held 0 0 -> 0",
        "held 0 1 -> 0", "ofFund 0 6 -> 0");
    edge(0, "a BASKET takes h * coins * (100 - TAX) / 100 as BACK, if its index puts payments BACK;", EdgeHelp.shares(1),
        "index 0 1 0 100 -1 false -> 1", "review 1 -> 1", "next -> 2", "pay 0 100 -> 100", "level 0 2 -> 1100000",
        "level 1 2 -> 1000000", "tax 0 99 -> 0", "pay 0 100 -> 1", "level 0 2 -> 1101000", "tax 0 100 -> 99",
        "pay 0 99999 -> 0", "level 0 2 -> 1101000", "tax 1 50 -> 0", "level 1 2 -> 1000000");
    edge(0, "a FUND the floor of that as money (whether its index does so or not).", EdgeHelp.shares(1),
        "index 0 1 0 100 -1 false -> 1", "review 1 -> 1", "fund 1 0 0 1 -> 1", "make 1 1 -> 1", "next -> 2",
        "trade 1 -> 1", "tax 1 1 -> 0", "tax 0 99 -> 0",
        // 99 / 100 and 99 * 99 / 100, then 1 and 99, then 1.01 and 99.99
        "pay 0 99 -> 98", "money 0 0 -> 0", "money 1 0 -> 98", "pay 0 100 -> 100", "money 0 0 -> 1",
        "pay 0 101 -> 100", "money 0 0 -> 2", "money 1 0 -> 296");
    edge(0, "RIGHTS a for b at a price: COUNT becomes the floor of COUNT * (a + b) / b; a BASKET has h * (a + b) / b, and"
        + " h * a / b * price is PAID IN;", EdgeHelp.shares(1),
        // at its price nothing is other; at less it is less, at more it is more
        "rights 0 1 3 1000 -> 1333", "level 0 1 -> 1000000", "rights 0 20 20 1000 -> 2666", "level 0 1 -> 1000000",
        "next -> 2", "rights 0 1 1 1 -> 5332", "level 0 2 -> 1998002", "undo -> 7", "rights 0 1 1 99999 -> 5332",
        "level 0 2 -> 19802", "undo -> 7", "rights 0 1 20 999 -> 2799", "level 0 2 -> 1000048");
    edge(0, "a FUND has the floor of h * a / b more, and pays as many prices.", EdgeHelp.shares(19),
        "rights 0 1 20 99999 -> 1050", "held 0 0 -> 19", "money 0 0 -> 0", "rights 0 1 19 7 -> 1105",
        "held 0 0 -> 20", "money 0 0 -> -7", "rights 0 1 20 1 -> 1160", "held 0 0 -> 21", "money 0 0 -> -8",
        "rights 0 20 20 99999 -> 2320", "held 0 0 -> 42", "money 0 0 -> -2099987");
    edge(0, "a new PAPER comes, with the floor of COUNT * a / b as COUNT, and the same FREE and KIND;", EdgeHelp.shares(3),
        "spin 0 1 4 3 -> 1", "held 0 0 -> 3", "held 0 1 -> 0", "money 0 0 -> 2", "ofPaper 1 1 -> 250",
        "ofPaper 1 2 -> 100", "ofPaper 1 0 -> 0", "ofPaper 1 4 -> 1", "ofPaper 1 6 -> 0",
        // 3 / 4 at 2 is a coin, at 1 none
        "price 1 1 2 -> 1", "money 0 0 -> 1", "price 1 1 1 -> 1", "money 0 0 -> 0", "spin 0 4 3 99999 -> 2",
        "held 0 2 -> 4", "money 0 0 -> 0");
    edge(0, "a BASKET has h * a / b of it, too; a FUND the floor of that, and money for the rest, as above.",
        EdgeHelp.shares(19),
        "spin 0 1 20 99999 -> 1", "held 0 1 -> 0", "money 0 0 -> 94999", "level 0 1 -> 5999950", "spin 1 20 1 1 -> 2",
        "held 0 2 -> 0", "level 0 1 -> 6000950", "spin 0 1 19 1000 -> 3", "held 0 3 -> 1", "money 0 0 -> 94999",
        "level 0 1 -> 6053582", "held 0 0 -> 19");
    edge(0, "MERGER of x into y, a for b: x is GONE; COUNT of y is more by the floor of COUNT of x * a / b;",
        "paper 19 100 0 10 -> 0", "paper 1 100 0 10 -> 1", "merge 0 1 1 20 -> 1", "ofPaper 0 5 -> 1", "ofPaper 0 1 -> 19",
        "undo -> 2", "ofPaper 0 5 -> 0", "merge 0 1 1 19 -> 2", "undo -> 2", "merge 0 1 20 19 -> 21", "undo -> 2",
        "merge 0 1 19 20 -> 19");
    edge(0, "in a FUND the floor of that, and money for the rest at the PRICE of y.", EdgeHelp.shares(3),
        "paper 1 100 0 1 -> 1", "next -> 2", "price 1 2 3 -> 0", "merge 0 1 1 4 -> 251", "held 0 0 -> 0",
        "held 0 1 -> 0", "money 0 0 -> 2", "price 1 2 1 -> 1", "money 0 0 -> 0", "price 1 2 4 -> 1", "money 0 0 -> 3",
        "level 0 2 -> 1000", "ofFund 0 6 -> 0");
    // in addition to what there is of y
    edge(0, "h of x become h * a / b of y, in addition to what there is of y;",
        "paper 1000 100 0 500 -> 0", "paper 1000 100 0 500 -> 1", "index 1 2 0 100 -1 false -> 0",
        "fund 0 0 0 1 -> 0", "make 0 4 -> 4", "review 0 -> 1", "next -> 1", "trade 0 -> 2", "held 0 0 -> 4",
        "held 0 1 -> 4", "merge 1 0 1 4 -> 1250", "held 0 0 -> 5", "held 0 1 -> 0", "money 0 0 -> 0",
        // there is nothing left of x, so its price counts no more
        "level 0 1 -> 625000", "price 1 1 99999 -> 0", "level 0 1 -> 625000");
  }

  private static void paper() {
    edge(2, "Returns its number.", papers(9), "paper 5 50 1 5 -> 9", "house 1 -> 10");
    edge(2, "if count is not 1 to 99999, free not 1 to 100, kind not 0 to 3, or price not 1 to 99999",
        "paper 0 50 1 5 -> IAE", "paper 1 50 1 5 -> 0", "ofPaper 0 1 -> 1", "paper 99999 50 1 5 -> 1",
        "ofPaper 1 1 -> 99999", "paper 100000 50 1 5 -> IAE",
        "paper 5 0 1 5 -> IAE", "paper 5 1 1 5 -> 2", "ofPaper 2 2 -> 1", "paper 5 100 1 5 -> 3",
        "ofPaper 3 2 -> 100", "paper 5 101 1 5 -> IAE",
        "paper 5 50 -1 5 -> IAE", "paper 5 50 0 5 -> 4", "ofPaper 4 0 -> 0", "paper 5 50 3 5 -> 5",
        "ofPaper 5 0 -> 3", "paper 5 50 4 5 -> IAE",
        "paper 5 50 1 0 -> IAE", "paper 5 50 1 1 -> 6", "ofPaper 6 3 -> 1", "paper 5 50 1 99999 -> 7",
        "ofPaper 7 3 -> 99999", "paper 5 50 1 100000 -> IAE",
        "paper -1 50 1 5 -> IAE", "paper " + LEAST + " 50 1 5 -> IAE", "paper " + MOST + " 50 1 5 -> IAE",
        "paper 5 " + LEAST + " 1 5 -> IAE", "paper 5 " + MOST + " 1 5 -> IAE", "paper 5 50 " + LEAST + " 5 -> IAE",
        "paper 5 50 " + MOST + " 5 -> IAE", "paper 5 50 1 " + LEAST + " -> IAE", "paper 5 50 1 " + MOST + " -> IAE",
        "house 1 -> 8");
    edge(2, "if there are 10", papers(9),
        "house 1 -> 9", "paper 1 1 0 1 -> 9", "paper 1 1 0 1 -> ISE", "house 1 -> 10", "house 4 -> 8",
        // one that is GONE is there, too; one that is taken back is not
        "merge 9 0 1 1 -> 6", "paper 1 1 0 1 -> ISE", "undo -> 7", "undo -> 6", "paper 2 1 0 1 -> 9",
        "paper 1 1 0 1 -> ISE");
    edge(2, "if there are 10", EdgeHelp.join(papers(9), "spin 0 1 1 1 -> 9"), "paper 1 1 0 1 -> ISE",
        "paper 0 1 0 1 -> IAE");
  }

  private static void price() {
    edge(3, "if there is no such PAPER",
        "price 0 0 1 -> IOOBE", "paper 1 1 0 1 -> 0", "paper 1 1 0 1 -> 1", "price -1 0 1 -> IOOBE",
        "price 0 0 2 -> 0", "price 1 0 3 -> 0", "price 2 0 1 -> IOOBE", "price " + LEAST + " 0 1 -> IOOBE",
        "price " + MOST + " 0 1 -> IOOBE", "ofPaper 0 3 -> 2", "ofPaper 1 3 -> 3", "undo -> 3", "undo -> 2",
        "undo -> 1", "price 1 0 1 -> IOOBE");
    edge(3, "if day is not from the DAY on which it came to TODAY, or price is not 1 to 99999",
        "paper 1 1 0 1 -> 0", "price 0 -1 5 -> IAE", "price 0 0 5 -> 0", "price 0 1 5 -> IAE", "next -> 1",
        "next -> 2", "paper 1 1 0 1 -> 1", "price 1 1 5 -> IAE", "price 1 2 5 -> 0", "price 1 3 5 -> IAE",
        "next -> 3", "price 1 1 5 -> IAE", "price 1 2 6 -> 0", "price 1 3 7 -> 0", "price 1 4 5 -> IAE",
        "price 1 " + LEAST + " 5 -> IAE", "price 1 " + MOST + " 5 -> IAE", "price 0 3 0 -> IAE", "price 0 3 1 -> 0",
        "price 0 3 99999 -> 0", "price 0 3 100000 -> IAE", "price 0 3 -1 -> IAE", "price 0 3 " + LEAST + " -> IAE",
        "price 0 3 " + MOST + " -> IAE", "priceOn 0 3 -> 99999", "priceOn 1 2 -> 6", "priceOn 1 3 -> 7");
  }

  private static void priceAnswers() {
    String returns = "Returns how many LEVELS of all INDEXES, of all DAYS up to TODAY, are others by that.";
    edge(3, returns,
        // without indexes, without levels, with the same price, of a paper that is no member
        "paper 1000 100 0 10 -> 0", "price 0 0 11 -> 0", "index 0 1 0 100 -1 false -> 0", "price 0 0 10 -> 0",
        "paper 1 1 0 1 -> 1", "review 0 -> 1", "next -> 1", "price 0 0 10 -> 0", "price 0 1 10 -> 0",
        "price 1 1 99 -> 0", "price 0 1 11 -> 1", "price 0 1 11 -> 0", "next -> 2", "next -> 3", "price 0 0 22 -> 3",
        "price 0 2 11 -> 0", "price 0 1 12 -> 1", "price 0 3 12 -> 1", "price 0 2 12 -> 1", "house 4 -> 8");
    // a level that is rounded to the same number is no other
    edge(3, returns,
        "paper 99999 100 0 99999 -> 0", "paper 1 1 0 1 -> 1", "index 0 2 0 100 -1 false -> 0", "review 0 -> 1",
        "next -> 1", "price 1 1 2 -> 0", "level 0 1 -> 1000000", "price 1 1 99999 -> 0", "price 0 1 99998 -> 1",
        "level 0 1 -> 999990");
    String[] all = new String[49];
    all[0] = "paper 1000 100 0 10 -> 0";
    for (int i = 0; i < 4; i++) {
      all[1 + i] = "index " + i + " 1 0 100 -1 false -> " + i;
      all[5 + i] = "review " + i + " -> " + (i + 1);
    }
    for (int day = 1; day <= 40; day++) {
      all[8 + day] = "next -> " + day;
    }
    edge(3, returns, all, "price 0 1 11 -> 160", "price 0 0 22 -> 160", "price 0 1 22 -> 160", "price 0 40 1 -> 4",
        "price 0 39 1 -> 4", "undo -> 7");
  }

  private static void countAndFree() {
    edge(4, "Returns the one before.",
        "paper 7 50 0 10 -> 0", "count 0 7 -> 7", "count 0 8 -> 7", "undo -> 2", "count 0 9 -> 7",
        "split 0 20 1 -> 180", "split 0 20 1 -> 3600", "split 0 20 1 -> 72000", "split 0 20 1 -> 1440000",
        "split 0 20 1 -> 28800000", "split 0 20 1 -> 576000000", "split 0 20 1 -> 999999999",
        "count 0 1 -> 999999999", "count 0 99999 -> 1");
    edge(4, "if there is no such PAPER",
        "count 0 1 -> IOOBE", "paper 5 1 0 1 -> 0", "paper 6 1 0 1 -> 1", "count -1 1 -> IOOBE", "count 0 1 -> 5",
        "count 1 1 -> 6", "count 2 1 -> IOOBE", "count " + LEAST + " 1 -> IOOBE", "count " + MOST + " 1 -> IOOBE");
    edge(4, "if count is not 1 to 99999",
        "paper 5 1 0 1 -> 0", "count 0 0 -> IAE", "count 0 1 -> 5", "count 0 99999 -> 1", "count 0 100000 -> IAE",
        "count 0 -1 -> IAE", "count 0 " + LEAST + " -> IAE", "count 0 " + MOST + " -> IAE", "ofPaper 0 1 -> 99999");
    edge(4, "if it is GONE",
        "paper 5 1 0 1 -> 0", "paper 6 1 0 1 -> 1", "merge 0 1 1 1 -> 11", "count 0 1 -> ISE", "count 0 5 -> ISE",
        "count 1 1 -> 11", "ofPaper 0 1 -> 5", "undo -> 3", "undo -> 2", "count 0 1 -> 5");
    edge(5, "Returns the one before.",
        "paper 7 50 0 10 -> 0", "free 0 50 -> 50", "free 0 51 -> 50", "undo -> 2", "free 0 1 -> 50", "free 0 100 -> 1");
    edge(5, "if there is no such PAPER",
        "free 0 1 -> IOOBE", "paper 5 9 0 1 -> 0", "paper 6 8 0 1 -> 1", "free -1 1 -> IOOBE", "free 0 1 -> 9",
        "free 1 1 -> 8", "free 2 1 -> IOOBE", "free " + LEAST + " 1 -> IOOBE", "free " + MOST + " 1 -> IOOBE");
    edge(5, "if free is not 1 to 100",
        "paper 5 9 0 1 -> 0", "free 0 0 -> IAE", "free 0 1 -> 9", "free 0 100 -> 1", "free 0 101 -> IAE",
        "free 0 -1 -> IAE", "free 0 " + LEAST + " -> IAE", "free 0 " + MOST + " -> IAE", "ofPaper 0 2 -> 100");
    edge(5, "if it is GONE",
        "paper 5 9 0 1 -> 0", "paper 6 8 0 1 -> 1", "merge 0 1 1 1 -> 11", "free 0 1 -> ISE", "free 0 9 -> ISE",
        "free 1 1 -> 8", "ofPaper 0 2 -> 9", "undo -> 3", "undo -> 2", "free 0 1 -> 9");
  }

  private static void split() {
    edge(6, "Returns its COUNT then.",
        "paper 5 100 0 10 -> 0", "split 0 1 1 -> 5", "split 0 1 2 -> 2", "split 0 1 20 -> 1", "split 0 19 20 -> 1",
        "split 0 20 1 -> 20", "split 0 20 19 -> 21");
    edge(6, "if there is no such PAPER",
        "split 0 1 1 -> IOOBE", "paper 5 9 0 1 -> 0", "paper 6 8 0 1 -> 1", "split -1 1 1 -> IOOBE",
        "split 0 2 1 -> 10", "split 1 2 1 -> 12", "split 2 1 1 -> IOOBE", "split " + LEAST + " 1 1 -> IOOBE",
        "split " + MOST + " 1 1 -> IOOBE");
    edge(6, "if a or b is not 1 to 20",
        "paper 500 9 0 1 -> 0", "split 0 0 1 -> IAE", "split 0 1 1 -> 500", "split 0 20 1 -> 10000",
        "split 0 21 1 -> IAE", "split 0 1 0 -> IAE", "split 0 1 20 -> 500", "split 0 1 21 -> IAE",
        "split 0 -1 -1 -> IAE", "split 0 0 0 -> IAE", "split 0 21 21 -> IAE", "split 0 " + LEAST + " 1 -> IAE",
        "split 0 1 " + LEAST + " -> IAE", "split 0 " + MOST + " 1 -> IAE", "split 0 1 " + MOST + " -> IAE",
        "split 0 20 20 -> 500", "ofPaper 0 1 -> 500");
    edge(6, "if it is GONE",
        "paper 5 9 0 1 -> 0", "paper 6 8 0 1 -> 1", "merge 0 1 1 1 -> 11", "split 0 1 1 -> ISE", "split 0 2 1 -> ISE",
        "split 1 1 1 -> 11", "undo -> 3", "undo -> 2", "split 0 2 1 -> 10");
  }

  private static void pay() {
    edge(7, "Returns what all FUNDS together take, as digits.",
        "paper 1000 100 0 1 -> 0", "pay 0 99999 -> 0", "index 0 1 0 100 -1 true -> 0", "fund 0 0 0 1 -> 0",
        "fund 0 0 0 1 -> 1", "fund 0 0 0 1 -> 2", "pay 0 99999 -> 0", "make 0 9999 -> 9999", "make 1 9999 -> 9999",
        "make 2 1 -> 1", "pay 0 99999 -> 0", "review 0 -> 1", "next -> 1", "trade 0 -> 1", "trade 1 -> 1",
        // 9999000 * 99999 twice
        "pay 0 99999 -> 1999780002000", "trade 2 -> 1", "pay 0 1 -> 19999000");
    edge(7, "if there is no such PAPER",
        "pay 0 1 -> IOOBE", "paper 5 9 0 1 -> 0", "paper 6 8 0 1 -> 1", "pay -1 1 -> IOOBE", "pay 0 1 -> 0",
        "pay 1 1 -> 0", "pay 2 1 -> IOOBE", "pay " + LEAST + " 1 -> IOOBE", "pay " + MOST + " 1 -> IOOBE");
    edge(7, "if coins is not 1 to 99999", EdgeHelp.shares(2),
        "pay 0 0 -> IAE", "pay 0 1 -> 2", "pay 0 99999 -> 199998", "pay 0 100000 -> IAE", "pay 0 -1 -> IAE",
        "pay 0 " + LEAST + " -> IAE", "pay 0 " + MOST + " -> IAE", "money 0 0 -> 200000");
    edge(7, "if it is GONE", EdgeHelp.shares(2),
        "paper 1 1 1 1 -> 1", "merge 0 1 1 1 -> 1001", "pay 0 1 -> ISE", "pay 0 99999 -> ISE", "pay 1 1 -> 2",
        "undo -> 7", "undo -> 6", "pay 0 1 -> 2");
  }

  private static void rights() {
    edge(8, "Returns its COUNT then.",
        "paper 5 100 0 10 -> 0", "rights 0 1 20 1 -> 5", "rights 0 1 6 1 -> 5", "rights 0 1 5 1 -> 6",
        "rights 0 20 1 1 -> 126", "rights 0 20 20 1 -> 252");
    edge(8, "if there is no such PAPER",
        "rights 0 1 1 1 -> IOOBE", "paper 5 9 0 1 -> 0", "paper 6 8 0 1 -> 1", "rights -1 1 1 1 -> IOOBE",
        "rights 0 1 1 1 -> 10", "rights 1 1 1 1 -> 12", "rights 2 1 1 1 -> IOOBE",
        "rights " + LEAST + " 1 1 1 -> IOOBE", "rights " + MOST + " 1 1 1 -> IOOBE");
    edge(8, "if a or b is not 1 to 20, or price not 1 to 99999", EdgeHelp.shares(1),
        "rights 0 0 1 1 -> IAE", "rights 0 1 1 1 -> 2000", "money 0 0 -> -1", "rights 0 20 1 1 -> 42000",
        "money 0 0 -> -41", "rights 0 21 1 1 -> IAE", "rights 0 1 0 1 -> IAE", "rights 0 1 20 1 -> 44100",
        "money 0 0 -> -43", "rights 0 1 21 1 -> IAE", "rights 0 1 1 0 -> IAE", "rights 0 1 1 99999 -> 88200",
        "money 0 0 -> -4399999", "rights 0 1 1 100000 -> IAE", "rights 0 -1 1 1 -> IAE", "rights 0 1 -1 1 -> IAE",
        "rights 0 1 1 -1 -> IAE", "rights 0 " + LEAST + " 1 1 -> IAE", "rights 0 1 " + LEAST + " 1 -> IAE",
        "rights 0 1 1 " + LEAST + " -> IAE", "rights 0 " + MOST + " 1 1 -> IAE", "rights 0 1 " + MOST + " 1 -> IAE",
        "rights 0 1 1 " + MOST + " -> IAE", "ofPaper 0 1 -> 88200");
    edge(8, "if it is GONE",
        "paper 5 9 0 1 -> 0", "paper 6 8 0 1 -> 1", "merge 0 1 1 1 -> 11", "rights 0 1 1 1 -> ISE",
        "rights 1 1 1 1 -> 22", "undo -> 3", "undo -> 2", "rights 0 1 1 1 -> 10");
  }

  private static void spin() {
    edge(9, "Returns the number of the new PAPER.", papers(1),
        "spin 0 1 1 1 -> 1", "spin 1 1 1 1 -> 2", "paper 1 1 0 1 -> 3", "spin 0 1 1 1 -> 4", "spin 4 1 1 1 -> 5",
        "spin 0 1 1 1 -> 6", "spin 0 1 1 1 -> 7", "spin 0 1 1 1 -> 8", "spin 0 1 1 1 -> 9");
    edge(9, "if there is no such PAPER",
        "spin 0 1 1 1 -> IOOBE", "paper 5 9 0 1 -> 0", "paper 6 8 0 1 -> 1", "spin -1 1 1 1 -> IOOBE",
        "spin 2 1 1 1 -> IOOBE", "spin 0 1 1 1 -> 2", "spin 1 1 1 1 -> 3", "spin 4 1 1 1 -> IOOBE",
        "spin " + LEAST + " 1 1 1 -> IOOBE", "spin " + MOST + " 1 1 1 -> IOOBE");
    edge(9, "if a or b is not 1 to 20, or price not 1 to 99999",
        "paper 40 9 0 1 -> 0", "spin 0 0 1 1 -> IAE", "spin 0 1 1 1 -> 1", "spin 0 20 1 1 -> 2", "ofPaper 2 1 -> 800",
        "spin 0 21 1 1 -> IAE", "spin 0 1 0 1 -> IAE", "spin 0 1 20 1 -> 3", "ofPaper 3 1 -> 2",
        "spin 0 1 21 1 -> IAE", "spin 0 1 1 0 -> IAE", "ofPaper 1 3 -> 1", "spin 0 1 1 99999 -> 4",
        "ofPaper 4 3 -> 99999", "spin 0 1 1 100000 -> IAE", "spin 0 -1 1 1 -> IAE", "spin 0 1 -1 1 -> IAE",
        "spin 0 1 1 -1 -> IAE", "spin 0 " + LEAST + " 1 1 -> IAE", "spin 0 1 " + LEAST + " 1 -> IAE",
        "spin 0 1 1 " + LEAST + " -> IAE", "spin 0 " + MOST + " 1 1 -> IAE", "spin 0 1 " + MOST + " 1 -> IAE",
        "spin 0 1 1 " + MOST + " -> IAE", "house 1 -> 5");
    edge(9, "if it is GONE, or there are 10 PAPERS", papers(8),
        "merge 0 1 1 1 -> 10", "spin 0 1 1 1 -> ISE", "spin 1 1 1 1 -> 8", "spin 8 1 1 1 -> 9", "spin 8 1 1 1 -> ISE",
        "spin 0 1 1 1 -> ISE", "house 1 -> 10", "undo -> 7", "house 1 -> 9", "spin 1 1 1 7 -> 9", "ofPaper 9 3 -> 7",
        "spin 1 1 1 7 -> ISE");
  }

  private static void merge() {
    edge(10, "Returns COUNT of the other one then.",
        "paper 19 100 0 10 -> 0", "paper 1 100 0 10 -> 1", "paper 7 100 0 10 -> 2", "paper 5 100 0 10 -> 3",
        "merge 0 1 1 20 -> 1", "undo -> 4", "merge 0 1 1 19 -> 2", "merge 2 1 3 2 -> 12", "merge 1 3 20 1 -> 245");
    edge(10, "if there is no such PAPER (both)",
        "merge 0 0 1 1 -> IOOBE", "merge 0 1 1 1 -> IOOBE", "paper 5 9 0 1 -> 0", "merge 0 1 1 1 -> IOOBE",
        "merge 1 0 1 1 -> IOOBE", "paper 6 8 0 1 -> 1", "merge -1 0 1 1 -> IOOBE", "merge 0 -1 1 1 -> IOOBE",
        "merge 2 0 1 1 -> IOOBE", "merge 0 2 1 1 -> IOOBE", "merge 2 2 1 1 -> IOOBE", "merge -1 -1 1 1 -> IOOBE",
        "merge " + LEAST + " 0 1 1 -> IOOBE", "merge 0 " + LEAST + " 1 1 -> IOOBE", "merge " + MOST + " 0 1 1 -> IOOBE",
        "merge 0 " + MOST + " 1 1 -> IOOBE", "merge 1 0 1 1 -> 11");
    edge(10, "if both are the same, or a or b is not 1 to 20",
        "paper 40 9 0 1 -> 0", "paper 1 8 0 1 -> 1", "merge 0 0 1 1 -> IAE", "merge 1 1 1 1 -> IAE",
        "merge 0 1 0 1 -> IAE", "merge 0 1 21 1 -> IAE", "merge 0 1 1 0 -> IAE", "merge 0 1 1 21 -> IAE",
        "merge 0 1 -1 1 -> IAE", "merge 0 1 1 -1 -> IAE", "merge 0 1 " + LEAST + " 1 -> IAE",
        "merge 0 1 1 " + LEAST + " -> IAE", "merge 0 1 " + MOST + " 1 -> IAE", "merge 0 1 1 " + MOST + " -> IAE",
        "merge 0 1 1 1 -> 41", "undo -> 2", "merge 0 1 20 1 -> 801", "undo -> 2", "merge 0 1 1 20 -> 3", "undo -> 2",
        "merge 0 1 20 20 -> 41");
    edge(10, "if one of both is GONE",
        "paper 1 9 0 1 -> 0", "paper 2 8 0 1 -> 1", "paper 3 8 0 1 -> 2", "merge 0 1 1 1 -> 3", "merge 0 2 1 1 -> ISE",
        "merge 2 0 1 1 -> ISE", "merge 0 1 1 1 -> ISE", "merge 1 0 1 1 -> ISE", "merge 2 1 1 1 -> 6",
        "merge 0 2 1 1 -> ISE", "merge 2 0 1 1 -> ISE", "house 7 -> 2", "undo -> 4", "merge 1 2 1 1 -> 6");
  }

  private static void next() {
    edge(11, "Returns TODAY then.", "next -> 1", "next -> 2", "undo -> 1", "house 0 -> 1", "next -> 2");
    String[] all = new String[39];
    for (int day = 0; day < 39; day++) {
      all[day] = "next -> " + (day + 1);
    }
    edge(11, "if TODAY is 40", all, "next -> 40", "next -> ISE", "house 0 -> 40", "undo -> 7", "house 0 -> 39",
        "next -> 40", "next -> ISE");
  }

  private static void ofPaper() {
    edge(21, "Returns that.",
        // ahead of all, and with all there is
        "paper 1 1 0 1 -> 0", "ofPaper 0 0 -> 0", "ofPaper 0 1 -> 1", "ofPaper 0 2 -> 1", "ofPaper 0 3 -> 1",
        "ofPaper 0 4 -> 0", "ofPaper 0 5 -> 0", "ofPaper 0 6 -> 0", "index 0 1 0 100 -1 false -> 0",
        "index 1 1 0 100 -1 false -> 1", "index 2 1 0 100 -1 false -> 2", "index 3 1 0 100 -1 false -> 3",
        "ofPaper 0 6 -> 0", "review 0 -> 1", "review 1 -> 2", "review 2 -> 3", "review 3 -> 4", "ofPaper 0 6 -> 0",
        "next -> 1", "ofPaper 0 6 -> 4", "paper 99999 100 3 99999 -> 1", "ofPaper 1 0 -> 3", "ofPaper 1 1 -> 99999",
        "ofPaper 1 2 -> 100", "ofPaper 1 3 -> 99999", "ofPaper 1 4 -> 1", "ofPaper 1 5 -> 0", "ofPaper 1 6 -> 0",
        "merge 0 1 1 1 -> 100000", "ofPaper 0 5 -> 1", "ofPaper 0 6 -> 4", "ofPaper 1 5 -> 0", "ofPaper 1 6 -> 0");
    edge(21, "if there is no such PAPER",
        "ofPaper 0 0 -> IOOBE", "paper 5 9 0 1 -> 0", "ofPaper -1 0 -> IOOBE", "ofPaper 0 0 -> 0",
        "ofPaper 1 0 -> IOOBE", "ofPaper " + LEAST + " 0 -> IOOBE", "ofPaper " + MOST + " 0 -> IOOBE",
        "undo -> 0", "ofPaper 0 0 -> IOOBE");
    edge(21, "if what is not 0 to 6",
        "paper 5 9 2 1 -> 0", "ofPaper 0 -1 -> IAE", "ofPaper 0 0 -> 2", "ofPaper 0 6 -> 0", "ofPaper 0 7 -> IAE",
        "ofPaper 0 " + LEAST + " -> IAE", "ofPaper 0 " + MOST + " -> IAE");
  }

  private static void priceOn() {
    edge(22, "Returns its PRICE; NONE, if it had not come.",
        "next -> 1", "paper 1 1 0 7 -> 0", "priceOn 0 0 -> -1", "priceOn 0 1 -> 7", "next -> 2", "priceOn 0 0 -> -1",
        "priceOn 0 1 -> 7", "priceOn 0 2 -> 7", "spin 0 1 1 9 -> 1", "priceOn 1 1 -> -1", "priceOn 1 2 -> 9",
        // a paper that is GONE keeps its prices
        "merge 0 1 1 1 -> 2", "next -> 3", "priceOn 0 1 -> 7", "priceOn 0 3 -> 7", "price 0 3 8 -> 0",
        "priceOn 0 3 -> 8");
    edge(22, "if there is no such PAPER",
        "priceOn 0 0 -> IOOBE", "paper 5 9 0 1 -> 0", "priceOn -1 0 -> IOOBE", "priceOn 0 0 -> 1",
        "priceOn 1 0 -> IOOBE", "priceOn " + LEAST + " 0 -> IOOBE", "priceOn " + MOST + " 0 -> IOOBE");
    edge(22, "if day is not 0 to TODAY",
        "paper 5 9 0 1 -> 0", "priceOn 0 -1 -> IAE", "priceOn 0 0 -> 1", "priceOn 0 1 -> IAE", "next -> 1",
        "priceOn 0 -1 -> IAE", "priceOn 0 0 -> 1", "priceOn 0 1 -> 1", "priceOn 0 2 -> IAE",
        "priceOn 0 " + LEAST + " -> IAE", "priceOn 0 " + MOST + " -> IAE", "undo -> 1", "priceOn 0 1 -> IAE");
  }

  private static void sizeAndVotes() {
    edge(23, "Returns SIZE as digits.", "paper 1 1 3 1 -> 0", "size 0 -> 1", "paper 99999 100 3 99999 -> 1",
        "size 1 -> 999980000100", "split 1 20 1 -> 1999980", "split 1 20 1 -> 39999600", "split 1 20 1 -> 799992000",
        "split 1 20 1 -> 999999999", "size 1 -> 9999899990000100");
    edge(23, "if there is no such PAPER",
        "size 0 -> IOOBE", "paper 5 9 0 1 -> 0", "size -1 -> IOOBE", "size 0 -> 45", "size 1 -> IOOBE",
        "size " + LEAST + " -> IOOBE", "size " + MOST + " -> IOOBE");
    edge(24, "Returns that, as digits.", EdgeHelp.shares(101),
        "votes 0 false -> 101", "votes 0 true -> 101", "lend 0 0 1 -> 0", "votes 0 true -> 100",
        "votes 0 false -> 101", "lend 0 0 99 -> 1", "votes 0 true -> 2", "lend 0 0 100 -> 99", "votes 0 true -> 0",
        "votes 0 false -> 101", "lend 0 0 0 -> 100", "votes 0 true -> 101");
    edge(24, "Returns that, as digits.",
        // without funds, with one that holds none
        "paper 5 9 0 1 -> 0", "votes 0 true -> 0", "votes 0 false -> 0", "index 0 1 0 100 -1 true -> 0",
        "fund 0 0 0 1 -> 0", "make 0 1 -> 1", "lend 0 0 100 -> 0", "votes 0 true -> 0", "votes 0 false -> 0");
    edge(24, "if there is no such PAPER",
        "votes 0 true -> IOOBE", "votes 0 false -> IOOBE", "paper 5 9 0 1 -> 0", "votes -1 true -> IOOBE",
        "votes 0 true -> 0", "votes 1 true -> IOOBE", "votes 1 false -> IOOBE", "votes " + LEAST + " true -> IOOBE",
        "votes " + MOST + " false -> IOOBE");
  }

  private static void rank() {
    edge(25, "Returns the RANK that it would have in a REVIEW now; NONE, if it is no CANDIDATE.",
        "index 0 1 0 100 -1 false -> 0", "index 0 1 0 100 3 false -> 1", "index 0 1 0 100 -1 false -> 2",
        "part 2 0 -> -1", "paper 5 9 2 1 -> 0", "rank 0 0 -> 1", "rank 1 0 -> -1", "rank 2 0 -> -1",
        "paper 5 9 3 1 -> 1", "rank 1 1 -> 1", "rank 1 0 -> -1",
        // alike ones by their numbers, then one more and one less
        "rank 0 0 -> 1", "rank 0 1 -> 2", "count 1 6 -> 5", "rank 0 0 -> 2", "rank 0 1 -> 1", "count 1 4 -> 6",
        "rank 0 0 -> 1", "rank 0 1 -> 2", "review 0 -> 1", "rank 2 0 -> -1", "next -> 1", "rank 2 0 -> 1",
        "rank 2 1 -> -1", "merge 0 1 1 1 -> 9", "rank 0 0 -> -1", "rank 0 1 -> 1", "rank 2 0 -> -1");
    String[] ten = new String[11];
    ten[0] = "index 0 8 0 100 -1 false -> 0";
    for (int p = 0; p < 10; p++) {
      ten[p + 1] = "paper " + (p + 1) + " 100 0 1 -> " + p;
    }
    edge(25, "Returns the RANK that it would have in a REVIEW now; NONE, if it is no CANDIDATE.", ten,
        "rank 0 0 -> 10", "rank 0 1 -> 9", "rank 0 8 -> 2", "rank 0 9 -> 1", "price 0 0 10 -> 0", "rank 0 0 -> 1",
        "rank 0 9 -> 2", "rank 0 1 -> 10");
    edge(25, "if there is no such INDEX or PAPER",
        "rank 0 0 -> IOOBE", "paper 5 9 0 1 -> 0", "rank 0 0 -> IOOBE", "index 0 1 0 100 -1 false -> 0",
        "rank 0 0 -> 1", "rank -1 0 -> IOOBE", "rank 1 0 -> IOOBE", "rank 0 -1 -> IOOBE", "rank 0 1 -> IOOBE",
        "rank " + LEAST + " 0 -> IOOBE", "rank " + MOST + " 0 -> IOOBE", "rank 0 " + LEAST + " -> IOOBE",
        "rank 0 " + MOST + " -> IOOBE", "undo -> 1", "rank 0 0 -> IOOBE");
  }
}
