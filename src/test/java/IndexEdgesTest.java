/** Boundary cases of indexes, sentence by sentence: "2. Indexes", and promises 12 to 15 and 26 to 36. */
public final class IndexEdgesTest {
  private static final int LEAST = Integer.MIN_VALUE;
  private static final int MOST = Integer.MAX_VALUE;

  /** An index with one paper at 128; today is 1. */
  private static final String[] AT_128 = {
    "paper 1000 100 0 128 -> 0", "index 1 1 0 100 -1 false -> 0", "review 0 -> 1", "next -> 1",
  };
  /** Two papers at 10, of which an index has the first one; today is 1. */
  private static final String[] ONE_OF_TWO = {
    "paper 20 100 0 10 -> 0", "paper 10 100 1 10 -> 1", "index 0 1 0 100 -1 false -> 0", "review 0 -> 1", "next -> 1",
  };

  private IndexEdgesTest() {
  }

  public static void main(String[] args) {
    candidates();
    ranks();
    membersBecome();
    noneAndCap();
    weights();
    inForce();
    levels();
    drift();
    index();
    tax();
    part();
    review();
    ofIndex();
    level();
    membersAndWhy();
    weightAndCut();
    part10000();
    common();
    growth();
    report();
    changed();
    EdgeHelp.close("index edges", 12, 13, 14, 15, 26, 27, 28, 29, 30, 31, 32, 33, 34, 35, 36);
  }

  private static void edge(int promise, String sentence, String... script) {
    EdgeHelp.edge(promise, sentence, script);
  }

  private static void edge(int promise, String sentence, String[] start, String... script) {
    EdgeHelp.edge(promise, sentence, EdgeHelp.join(start, script));
  }

  /** A call with "#" for the number of an INDEX, of which there are none, one and two. */
  private static void edgeOfNumber(int promise, String call, String due) {
    edge(promise, "if there is no such INDEX",
        call.replace("#", "0") + " -> IOOBE", "paper 5 9 0 1 -> 0", "index 0 1 0 100 -1 false -> 0",
        call.replace("#", "-1") + " -> IOOBE", call.replace("#", "0") + " -> " + due,
        call.replace("#", "1") + " -> IOOBE", "index 0 1 0 100 -1 false -> 1", call.replace("#", "1") + " -> " + due,
        call.replace("#", "2") + " -> IOOBE", call.replace("#", "" + LEAST) + " -> IOOBE",
        call.replace("#", "" + MOST) + " -> IOOBE");
    edge(promise, "if there is no such INDEX",
        "index 0 1 0 100 -1 false -> 0", "index 0 1 0 100 -1 false -> 1", "undo -> 1",
        call.replace("#", "1") + " -> IOOBE", call.replace("#", "0") + " -> " + due);
  }

  // ---- the description

  private static void candidates() {
    String candidates = "CANDIDATES: all PAPERS that are there and not GONE, of its KIND (all without a REGION), and,"
        + " if it is a PART, members of that index (as they are then).";
    edge(0, candidates,
        "paper 4 100 0 10 -> 0", "paper 3 100 3 10 -> 1", "paper 2 100 3 10 -> 2", "paper 1 100 2 10 -> 3",
        "index 0 8 0 100 -1 false -> 0", "index 0 8 0 100 3 false -> 1", "index 0 8 0 100 1 false -> 2",
        "index 0 8 0 100 -1 false -> 3", "part 3 1 -> -1", "review 0 -> 1", "review 1 -> 2", "review 2 -> 3",
        "review 3 -> 4", "next -> 1", "members 0 -> 0 1 2 3", "members 1 -> 1 2", "members 2 ->", "why 2 -> none",
        "members 3 -> 1 2", "merge 2 0 1 1 -> 6", "paper 9 100 3 10 -> 4", "review 0 -> 1", "review 3 -> 2",
        // the index 1 has no REVIEW: its members are as they were, but one is GONE, and one that came is none of them
        "next -> 2", "members 0 -> 0 1 3 4", "members 1 -> 1 2", "members 3 -> 1");
    edge(0, "a REGION (a KIND, or NONE for all)",
        "paper 4 100 0 10 -> 0", "paper 3 100 3 10 -> 1", "index 0 8 0 100 0 false -> 0", "index 0 8 0 100 3 false -> 1",
        "index 0 8 0 100 -1 false -> 2", "review 0 -> 1", "review 1 -> 2", "review 2 -> 3", "next -> 1", "members 0 -> 0",
        "members 1 -> 1", "members 2 -> 0 1");
    // the SIZES of the end of the DAY count, and late ones
    edge(0, "REVIEW of an index, at the end of a DAY.", ONE_OF_TWO,
        "review 0 -> 1", "count 1 21 -> 10", "next -> 2", "members 0 -> 1", "undo -> 7", "price 0 1 11 -> 1", "next -> 2",
        "members 0 -> 0", "price 0 1 10 -> 2", "members 0 -> 1", "price 0 2 11 -> 0", "members 0 -> 1");
    // the whole goes ahead of its PART on one DAY, for its number is smaller
    edge(0, candidates, ONE_OF_TWO,
        "index 0 8 0 100 -1 false -> 1", "part 1 0 -> -1", "count 1 21 -> 10", "review 1 -> 1", "review 0 -> 2",
        "next -> 2", "members 0 -> 1", "members 1 -> 1");
    // one that was a member of the PART, and is none of the whole any more
    edge(0, candidates, ONE_OF_TWO,
        "index 0 8 3 100 -1 false -> 1", "part 1 0 -> -1", "review 1 -> 1", "next -> 2", "members 1 -> 0",
        "count 1 21 -> 10", "review 0 -> 1", "next -> 3", "members 0 -> 1", "members 1 -> 0", "rank 1 0 -> -1",
        "rank 1 1 -> 1", "review 1 -> 1", "next -> 4", "members 1 -> 1", "part 1 -1 -> 0", "rank 1 0 -> 2",
        "review 1 -> 1", "next -> 5", "members 1 -> 0 1");
  }

  private static void ranks() {
    String rank = "RANK: by SIZE, the greatest first (of several the smallest number first), from 1 on.";
    edge(0, rank,
        "paper 10 100 0 10 -> 0", "paper 10 100 0 10 -> 1", "paper 5 100 0 20 -> 2", "paper 20 50 0 10 -> 3",
        "index 0 2 0 100 -1 false -> 0", "rank 0 0 -> 1", "rank 0 1 -> 2", "rank 0 2 -> 3", "rank 0 3 -> 4",
        "review 0 -> 1", "next -> 1", "members 0 -> 0 1", "free 3 51 -> 50", "rank 0 3 -> 1", "rank 0 0 -> 2",
        "free 3 49 -> 51", "rank 0 3 -> 4", "price 2 1 21 -> 0", "rank 0 2 -> 1", "price 2 1 19 -> 0",
        "rank 0 2 -> 4", "rank 0 3 -> 3");
  }

  private static void membersBecome() {
    String[] six = {
      "paper 60 100 0 1 -> 0", "paper 50 100 0 1 -> 1", "paper 40 100 0 1 -> 2", "paper 30 100 0 1 -> 3",
      "paper 20 100 0 1 -> 4", "paper 10 100 0 1 -> 5",
    };
    edge(0, "Members (by the last REVIEW that was \"ok\"; none ahead of it)", six,
        "index 0 3 1 100 -1 false -> 0", "members 0 ->", "review 0 -> 1", "members 0 ->", "ofIndex 0 8 -> 0",
        "next -> 1", "members 0 -> 0 1 2", "ofIndex 0 8 -> 3", "count 3 99 -> 30", "review 0 -> 1",
        "members 0 -> 0 1 2", "next -> 2", "members 0 -> 0 1 3");
    // WANTED 3, BUFFER 1: the rank 2 is in for itself, the rank 3 is not
    edge(0, "all CANDIDATES with a RANK of WANTED - BUFFER or less;", six,
        "index 0 3 1 100 -1 false -> 0", "review 0 -> 1", "next -> 1", "members 0 -> 0 1 2", "count 3 55 -> 30",
        "rank 0 3 -> 2", "rank 0 2 -> 4", "review 0 -> 1", "next -> 2", "members 0 -> 0 1 3", "count 2 45 -> 40",
        "rank 0 2 -> 4", "count 2 52 -> 45", "rank 0 2 -> 3", "rank 0 1 -> 4", "review 0 -> 1", "next -> 3",
        "members 0 -> 0 1 3");
    // WANTED - BUFFER is 0, and below 0: none is in for its rank alone
    edge(0, "all CANDIDATES with a RANK of WANTED - BUFFER or less;", six,
        "index 0 1 1 100 -1 false -> 0", "index 0 1 3 100 -1 false -> 1", "review 0 -> 1", "review 1 -> 2",
        "next -> 1", "members 0 -> 0", "members 1 -> 0", "count 1 70 -> 50", "review 0 -> 1", "review 1 -> 2",
        "next -> 2", "members 0 -> 0", "members 1 -> 0", "count 2 69 -> 40", "count 3 68 -> 30", "rank 0 0 -> 4",
        "review 0 -> 1", "review 1 -> 2", "next -> 3", "members 0 -> 1", "members 1 -> 0");
    // BUFFER 0: all of the first ranks are in
    edge(0, "all CANDIDATES with a RANK of WANTED - BUFFER or less;", six,
        "index 0 2 0 100 -1 false -> 0", "review 0 -> 1", "next -> 1", "members 0 -> 0 1", "count 2 51 -> 40",
        "review 0 -> 1", "next -> 2", "members 0 -> 0 2");
    String stay = "those that were members, with a RANK of WANTED + BUFFER or less, by RANKS;";
    edge(0, stay, six,
        "index 0 2 2 100 -1 false -> 0", "review 0 -> 1", "next -> 1", "members 0 -> 0 1",
        // the members have the ranks 4 and 3, and 5 and 4, one of them behind the rank 4
        "count 2 99 -> 40", "count 3 98 -> 30", "rank 0 1 -> 4", "review 0 -> 1", "next -> 2", "members 0 -> 0 1",
        "count 4 97 -> 20", "rank 0 0 -> 4", "rank 0 1 -> 5", "review 0 -> 1", "next -> 3", "members 0 -> 0 2");
    // as long as these are fewer than WANTED: of two members that could stay the better one
    edge(0, "then, as long as these are fewer than WANTED,", six,
        "index 0 3 1 100 -1 false -> 0", "review 0 -> 1", "next -> 1", "members 0 -> 0 1 2", "count 3 62 -> 30",
        "count 4 61 -> 20", "rank 0 0 -> 3", "rank 0 1 -> 4", "review 0 -> 1", "next -> 2", "members 0 -> 0 3 4");
    edge(0, "then, likewise, the others by RANKS.", six,
        // fewer CANDIDATES than WANTED, just as many, and one more
        "index 0 7 0 100 -1 false -> 0", "index 0 6 3 100 -1 false -> 1", "index 0 5 3 100 -1 false -> 2",
        "index 0 8 3 100 -1 false -> 3", "review 0 -> 1", "review 1 -> 2", "review 2 -> 3", "review 3 -> 4",
        "next -> 1", "members 0 -> 0 1 2 3 4 5", "members 1 -> 0 1 2 3 4 5", "members 2 -> 0 1 2 3 4",
        "members 3 -> 0 1 2 3 4 5", "count 5 19 -> 10", "count 4 1 -> 20", "review 2 -> 1", "next -> 2",
        "members 2 -> 0 1 2 3 4", "ofIndex 2 8 -> 5");
    String[] ten = new String[12];
    for (int p = 0; p < 10; p++) {
      ten[p] = "paper " + (100 - p) + " 100 0 1 -> " + p;
    }
    ten[10] = "index 0 8 3 100 -1 false -> 0";
    ten[11] = "review 0 -> 1";
    edge(0, "then, likewise, the others by RANKS.", ten, "next -> 1", "members 0 -> 0 1 2 3 4 5 6 7",
        "count 8 99999 -> 92", "count 9 99998 -> 91", "review 0 -> 1", "next -> 2", "members 0 -> 0 1 2 3 4 5 8 9");
  }

  private static void noneAndCap() {
    edge(0, "It is \"none\", and all stays as it was, if there are no CANDIDATES;",
        "index 2 1 0 10 2 false -> 0", "review 0 -> 1", "next -> 1", "why 0 -> none", "members 0 ->", "level 0 0 -> -",
        "level 0 1 -> -", "ofIndex 0 9 -> -1", "report 0 ->", "paper 9 100 2 10 -> 0", "index 0 1 0 100 2 false -> 1",
        "review 1 -> 1", "next -> 2", "why 1 -> ok", "paper 9 100 1 20 -> 1", "merge 0 1 1 1 -> 18", "review 1 -> 1",
        "next -> 3", "why 1 -> none", "members 1 -> 0", "weight 1 0 -> 1/1", "ofIndex 1 9 -> 1",
        "level 1 3 -> 2000000", "report 1 ->  1 100.00;", "ofIndex 1 10 -> 0");
    String cap = "it is \"cap\", and all stays, if the WAY is 2 and the number of members * CAP is below 100;"
        + " otherwise \"ok\".";
    edge(0, cap,
        "paper 4 100 0 10 -> 0", "paper 3 100 0 10 -> 1", "paper 2 100 0 10 -> 2", "index 2 1 0 99 -1 false -> 0",
        "index 2 1 0 100 -1 false -> 1", "index 2 3 0 33 -1 false -> 2", "index 2 3 0 34 -1 false -> 3",
        "review 0 -> 1", "review 1 -> 2", "review 2 -> 3", "review 3 -> 4", "next -> 1", "why 0 -> cap",
        "why 1 -> ok", "why 2 -> cap", "why 3 -> ok", "members 0 ->", "members 2 ->", "level 0 1 -> -",
        "members 3 -> 0 1 2", "merge 2 0 1 1 -> 6", "review 3 -> 1", "next -> 2", "why 3 -> cap",
        "members 3 -> 0 1 2", "weight 3 2 -> 8/25", "isCut 3 0 -> 1", "level 3 2 -> 1000000");
    // the number of members counts, not WANTED; just 100 is no less; in other WAYS it does not matter
    edge(0, cap,
        "paper 4 100 0 10 -> 0", "paper 3 100 0 10 -> 1", "paper 2 100 0 10 -> 2", "index 2 4 0 25 -1 false -> 0",
        "index 0 4 0 10 -1 false -> 1", "index 1 4 0 10 -1 false -> 2", "index 3 4 0 10 -1 false -> 3",
        "review 0 -> 1", "review 1 -> 2", "review 2 -> 3", "review 3 -> 4", "next -> 1", "why 0 -> cap",
        "why 1 -> ok", "why 2 -> ok", "why 3 -> ok", "paper 1 100 0 10 -> 3", "review 0 -> 1", "next -> 2",
        "why 0 -> ok", "weight 0 0 -> 1/4", "weight 0 3 -> 1/4");
  }

  private static void weights() {
    edge(0, "1 all alike.",
        "paper 99999 100 0 99999 -> 0", "paper 1 1 0 1 -> 1", "index 1 1 0 100 -1 false -> 0",
        "index 1 2 0 100 -1 false -> 1", "index 0 2 0 100 -1 false -> 2", "review 0 -> 1", "review 1 -> 2",
        "review 2 -> 3", "next -> 1", "weight 0 0 -> 1/1", "weight 0 1 -> 0/1", "weight 1 0 -> 1/2",
        "weight 1 1 -> 1/2", "weight 2 0 -> 999980000100/999980000101", "weight 2 1 -> 1/999980000101");
    String cut = "2 as their SIZES, but CUT: if some are above CAP, all these are CUT to CAP; what is left is parted"
        + " among the others as their SIZES; again and again, till none is above CAP.";
    // just CAP is not above it
    edge(0, cut,
        "paper 50 100 0 1 -> 0", "paper 30 100 0 1 -> 1", "paper 20 100 0 1 -> 2", "index 2 3 0 50 -1 false -> 0",
        "index 2 3 0 49 -1 false -> 1", "index 2 2 0 50 -1 false -> 2", "index 2 1 0 100 -1 false -> 3",
        "review 0 -> 1", "review 1 -> 2", "review 2 -> 3", "review 3 -> 4", "next -> 1", "isCut 0 0 -> 0",
        "weight 0 0 -> 1/2", "isCut 1 0 -> 1", "weight 1 0 -> 49/100", "weight 1 1 -> 153/500", "isCut 1 1 -> 0",
        // 5/8 is cut to a half, and what is left is just a half
        "isCut 2 0 -> 1", "isCut 2 1 -> 0", "weight 2 0 -> 1/2", "weight 2 1 -> 1/2", "isCut 3 0 -> 0",
        "weight 3 0 -> 1/1", "isSound -> true");
    // one is above CAP only when another has been cut, and one more only when that has been cut
    edge(0, cut,
        "paper 60 100 0 1 -> 0", "paper 20 100 0 1 -> 1", "paper 11 100 0 1 -> 2", "paper 5 100 0 1 -> 3",
        "paper 4 100 0 1 -> 4", "index 2 5 0 24 -1 false -> 0", "index 2 5 0 27 -1 false -> 1", "review 0 -> 1",
        "review 1 -> 2", "next -> 1", "isCut 0 0 -> 1", "isCut 0 1 -> 1", "isCut 0 2 -> 1", "isCut 0 3 -> 0",
        "isCut 0 4 -> 0", "weight 0 0 -> 6/25", "weight 0 1 -> 6/25", "weight 0 2 -> 6/25", "weight 0 3 -> 7/45",
        "weight 0 4 -> 28/225", "isCut 1 1 -> 1", "isCut 1 2 -> 0", "weight 1 2 -> 253/1000", "isSound -> true");
    // one of another KIND is not CUT, however large it is
    edge(0, cut,
        "paper 99999 100 0 1 -> 0", "paper 30 100 1 1 -> 1", "paper 20 100 1 1 -> 2", "paper 99998 100 2 1 -> 3",
        "index 2 2 0 50 1 false -> 0", "review 0 -> 1", "next -> 1", "members 0 -> 1 2", "isCut 0 0 -> 0",
        "isCut 0 1 -> 1", "isCut 0 2 -> 0", "isCut 0 3 -> 0", "weight 0 0 -> 0/1", "weight 0 3 -> 0/1",
        "weight 0 2 -> 1/2", "isSound -> true");
    // all of the members at once, but one, and none is left above
    edge(0, cut,
        "paper 100 100 0 1 -> 0", "paper 100 100 0 1 -> 1", "paper 100 100 0 1 -> 2", "paper 1 100 0 1 -> 3",
        "index 2 4 0 25 -1 false -> 0", "index 2 3 0 34 -1 false -> 1", "review 0 -> 1", "review 1 -> 2", "next -> 1",
        "isCut 0 0 -> 1", "isCut 0 1 -> 1", "isCut 0 2 -> 1", "isCut 0 3 -> 0", "weight 0 3 -> 1/4",
        "isCut 1 0 -> 0", "weight 1 0 -> 1/3", "isSound -> true");
    edge(0, "3 each KIND that some member has gets as much as each other one, and within it as their SIZES.",
        "paper 3 100 0 1 -> 0", "paper 1 100 0 1 -> 1", "paper 9 100 2 1 -> 2", "paper 8 100 3 1 -> 3",
        "paper 7 100 1 1 -> 4", "index 3 1 0 100 -1 false -> 0", "index 3 5 0 100 -1 false -> 1",
        "index 3 8 0 100 0 false -> 2", "index 3 3 0 100 -1 false -> 3", "review 0 -> 1", "review 1 -> 2",
        "review 2 -> 3", "review 3 -> 4", "next -> 1", "weight 0 2 -> 1/1", "weight 1 0 -> 3/16", "weight 1 1 -> 1/16",
        "weight 1 2 -> 1/4", "weight 1 3 -> 1/4", "weight 1 4 -> 1/4", "weight 2 0 -> 3/4", "weight 2 1 -> 1/4",
        "weight 3 2 -> 1/3", "weight 3 4 -> 1/3", "weight 3 0 -> 0/1");
  }

  private static void inForce() {
    // alike ones at 1 and 99999, and 99999 of the first one for each of the other
    edge(0, "The new BASKET: of each member WEIGHT / PRICE.",
        "paper 9 100 0 1 -> 0", "paper 1 100 0 99999 -> 1", "index 1 2 0 100 -1 false -> 0",
        "index 2 2 0 50 -1 false -> 1", "index 0 2 0 100 -1 false -> 2", "review 0 -> 1", "review 1 -> 2",
        "review 2 -> 3", "next -> 1", "part10000 0 0 -> 5000", "part10000 1 0 -> 5000", "part10000 2 0 -> 0",
        "part10000 2 1 -> 9999", "price 1 1 1 -> 3", "part10000 0 0 -> 9999", "part10000 1 0 -> 9999",
        "part10000 2 0 -> 9000", "part10000 2 1 -> 1000", "level 0 1 -> 500005", "level 2 1 -> 100");
    // alike ones of which two have one price, and one has another
    edge(0, "The new BASKET: of each member WEIGHT / PRICE.",
        "paper 9 100 0 2 -> 0", "paper 8 100 0 5 -> 1", "paper 7 100 0 2 -> 2", "paper 6 100 0 3 -> 3",
        "index 1 4 0 100 -1 false -> 0", "review 0 -> 1", "next -> 1", "part10000 0 0 -> 2500", "part10000 0 1 -> 2500",
        "part10000 0 2 -> 2500", "part10000 0 3 -> 2500", "price 1 1 10 -> 1", "level 0 1 -> 1250000",
        "price 0 1 4 -> 1", "level 0 1 -> 1500000", "price 2 1 4 -> 1", "level 0 1 -> 1750000", "price 3 1 6 -> 1",
        "level 0 1 -> 2000000");
    // two KINDS: 3 and 1 in the one, 8 in the other
    edge(0, "The new BASKET: of each member WEIGHT / PRICE.",
        "paper 3 100 0 1 -> 0", "paper 1 100 0 1 -> 1", "paper 4 100 2 2 -> 2", "index 3 3 0 100 -1 false -> 0",
        "review 0 -> 1", "next -> 1", "part10000 0 0 -> 3750", "part10000 0 1 -> 1250", "part10000 0 2 -> 5000",
        "price 0 1 2 -> 1", "level 0 1 -> 1375000", "price 2 1 4 -> 1", "level 0 1 -> 1875000");
    edge(0, "It is in force from the next DAY on.", ONE_OF_TWO,
        "fund 0 0 0 1 -> 0", "make 0 1 -> 1", "index 0 1 0 100 1 false -> 1", "fund 1 0 0 1 -> 1", "make 1 1 -> 1",
        "review 1 -> 1", "trade 1 -> -9", "would 1 -> -", "report 1 ->", "part10000 1 1 -> 0", "level 1 1 -> -",
        "count 1 99 -> 10", "review 0 -> 2", "report 0 ->  0 100.00;", "trade 0 -> 1", "held 0 0 -> 100", "next -> 2",
        "report 0 ->  1 100.00;", "report 1 ->  1 100.00;", "part10000 1 1 -> 10000", "trade 1 -> 1",
        "level 1 1 -> 1000000", "level 1 2 -> 1000000", "undo -> 7", "undo -> 6", "trade 1 -> -9");
  }

  private static void levels() {
    String first = "1000000 at the end of the DAY of the first REVIEW that is \"ok\" (none ahead of that).";
    edge(0, first,
        "index 0 1 0 100 -1 false -> 0", "review 0 -> 1", "next -> 1", "paper 9 100 0 9 -> 0", "next -> 2",
        "review 0 -> 1", "level 0 2 -> -", "next -> 3", "level 0 0 -> -", "level 0 1 -> -", "level 0 2 -> 1000000",
        "level 0 3 -> 1000000", "ofIndex 0 9 -> 2", "price 0 3 18 -> 1", "review 0 -> 1", "next -> 4",
        // a later REVIEW does not set it anew
        "level 0 3 -> 2000000", "level 0 4 -> 2000000", "ofIndex 0 9 -> 2");
    // 1000000 / 128 is 7812.5, 3 times as much 23437.5, and 5 times 39062.5
    String rounded = "ROUNDED to the nearest whole number, a half up.";
    edge(0, rounded, AT_128,
        "price 0 1 1 -> 1", "level 0 1 -> 7813", "price 0 1 3 -> 1", "level 0 1 -> 23438", "price 0 1 5 -> 1",
        "level 0 1 -> 39063", "price 0 1 2 -> 1", "level 0 1 -> 15625");
    // a little above a half, and a little below it: 1000000 * 49999 / 99998 and * 50000 / 99999
    edge(0, rounded,
        "paper 10 100 0 99999 -> 0", "index 1 1 0 100 -1 false -> 0", "review 0 -> 1", "next -> 1",
        "price 0 1 50000 -> 1", "level 0 1 -> 500005", "price 0 1 49999 -> 1", "level 0 1 -> 499995",
        "price 0 1 1 -> 1", "level 0 1 -> 10", "next -> 2", "split 0 1 19 -> 1", "level 0 2 -> 1", "split 0 19 20 -> 1",
        // 10 / 20 is a half, which is rounded up; 10 / 20 * 19 / 20 is less
        "level 0 2 -> 1", "split 0 19 20 -> 1", "level 0 2 -> 0", "next -> 3", "level 0 3 -> 0", "split 0 20 1 -> 20",
        "price 0 3 99999 -> 0", "level 0 3 -> 0");
    edge(0, "LEVEL of TODAY is what it would be if TODAY ended now (none, as long as no BASKET is in force).", AT_128,
        "level 0 1 -> 1000000", "price 0 1 64 -> 1", "level 0 1 -> 500000", "split 0 2 1 -> 2000",
        "level 0 1 -> 1000000", "split 0 2 1 -> 4000", "level 0 1 -> 2000000", "undo -> 6", "level 0 1 -> 1000000",
        "next -> 2", "level 0 1 -> 1000000", "undo -> 6", "undo -> 5", "undo -> 4", "undo -> 3", "level 0 0 -> -");
    // what was paid in and put back counts for that DAY alone
    edge(0, "(what it was worth at the end of the DAY ahead, as it came in force or stayed, and PAID IN)",
        "paper 10 100 0 10 -> 0", "index 1 1 0 100 -1 true -> 0", "review 0 -> 1", "next -> 1", "pay 0 10 -> 0",
        "level 0 1 -> 2000000", "rights 0 1 1 10 -> 20", "level 0 1 -> 1500000", "next -> 2", "level 0 2 -> 1500000",
        "price 0 2 20 -> 1", "level 0 2 -> 3000000", "review 0 -> 1", "next -> 3", "level 0 3 -> 3000000",
        "pay 0 20 -> 0", "level 0 3 -> 6000000", "next -> 4", "level 0 4 -> 6000000");
    // all that BACK and PAID IN can be at once
    edge(0, "(what it is worth at PRICES of the DAY, and BACK)",
        "paper 10 100 0 1 -> 0", "index 1 1 0 100 -1 true -> 0", "review 0 -> 1", "next -> 1", "pay 0 99999 -> 0",
        "level 0 1 -> 100000000000", "pay 0 99999 -> 0", "level 0 1 -> 199999000000", "rights 0 20 1 99999 -> 210",
        // 21 and 199998, over 1 and 1999980
        "level 0 1 -> 100010");
  }

  private static void drift() {
    edge(0, "DRIFT: for each DAY that ended the floor of 1000 * (what it is exactly - LEVEL), all together.", AT_128,
        "ofIndex 0 11 -> 0", "price 0 1 1 -> 1", "level 0 1 -> 7813", "ofIndex 0 11 -> 0", "next -> 2",
        // 7812.5 - 7813; then 7813 * 2 / 3 = 5208.67, and 5209 / 2 = 2604.5, and 2605 * 4 / 3 = 3473.33
        "ofIndex 0 11 -> -500", "split 0 2 3 -> 666", "level 0 2 -> 5209", "next -> 3", "ofIndex 0 11 -> -834",
        "split 0 1 2 -> 333", "level 0 3 -> 2605", "next -> 4", "ofIndex 0 11 -> -1334", "split 0 4 3 -> 444",
        "level 0 4 -> 3473", "next -> 5", "ofIndex 0 11 -> -1001", "next -> 6", "ofIndex 0 11 -> -1001",
        "undo -> 7", "undo -> 6", "ofIndex 0 11 -> -1334");
    // told anew, the DAY of its first LEVEL has none
    edge(0, "DRIFT: for each DAY that ended the floor of 1000 * (what it is exactly - LEVEL), all together.", AT_128,
        "price 0 1 3 -> 1", "next -> 2", "ofIndex 0 11 -> -500", "price 0 1 128 -> 2", "ofIndex 0 11 -> 0",
        "price 0 0 3 -> 2", "level 0 1 -> 42666667", "ofIndex 0 11 -> -334");
  }

  // ---- promises

  private static void index() {
    edge(12, "Returns its number.",
        "index 0 1 0 10 -1 false -> 0", "index 1 1 0 10 -1 false -> 1", "index 2 1 0 10 -1 false -> 2",
        "index 3 1 0 10 -1 false -> 3", "house 2 -> 4");
    edge(12, "if way is not 0 to 3, wanted not 1 to 8, buffer not 0 to 3, cap not 10 to 100, or region not NONE to 3",
        "index -1 1 0 50 0 true -> IAE", "index 0 1 0 10 -1 false -> 0", "index 3 8 3 100 3 true -> 1",
        "index 4 1 0 50 0 true -> IAE", "index 0 0 0 50 0 true -> IAE", "index 0 9 0 50 0 true -> IAE",
        "index 0 1 -1 50 0 true -> IAE", "index 0 1 4 50 0 true -> IAE", "index 0 1 0 9 0 true -> IAE",
        "index 0 1 0 101 0 true -> IAE", "index 0 1 0 50 -2 true -> IAE", "index 0 1 0 50 4 true -> IAE",
        "index " + LEAST + " 1 0 50 0 true -> IAE", "index " + MOST + " 1 0 50 0 true -> IAE",
        "index 0 " + LEAST + " 0 50 0 true -> IAE", "index 0 " + MOST + " 0 50 0 true -> IAE",
        "index 0 1 " + LEAST + " 50 0 true -> IAE", "index 0 1 " + MOST + " 50 0 true -> IAE",
        "index 0 1 0 " + LEAST + " 0 true -> IAE", "index 0 1 0 " + MOST + " 0 true -> IAE",
        "index 0 1 0 50 " + LEAST + " true -> IAE", "index 0 1 0 50 " + MOST + " true -> IAE", "house 2 -> 2",
        "ofIndex 0 0 -> 0", "ofIndex 0 1 -> 1", "ofIndex 0 2 -> 0", "ofIndex 0 3 -> 10", "ofIndex 0 4 -> -1",
        "ofIndex 0 5 -> 0", "ofIndex 1 0 -> 3", "ofIndex 1 1 -> 8", "ofIndex 1 2 -> 3", "ofIndex 1 3 -> 100",
        "ofIndex 1 4 -> 3", "ofIndex 1 5 -> 1");
    edge(12, "if there are 4",
        "index 0 1 0 10 -1 false -> 0", "index 0 1 0 10 -1 false -> 1", "index 0 1 0 10 -1 false -> 2",
        "index 0 2 0 10 -1 false -> 3", "index 0 3 0 10 -1 false -> ISE", "index 0 0 0 10 -1 false -> IAE",
        "house 2 -> 4", "house 4 -> 4", "undo -> 3", "ofIndex 3 1 -> IOOBE", "index 0 4 0 10 -1 false -> 3",
        "ofIndex 3 1 -> 4", "index 0 3 0 10 -1 false -> ISE");
    edge(0, "INDEXES: at most 4",
        "index 0 1 0 10 -1 false -> 0", "index 0 1 0 10 -1 false -> 1", "index 0 1 0 10 -1 false -> 2",
        "index 0 2 0 10 -1 false -> 3", "index 0 3 0 10 -1 false -> ISE");
  }

  private static void tax() {
    edge(13, "Returns the one before.", "index 0 1 0 10 -1 true -> 0", "tax 0 0 -> 0", "tax 0 7 -> 0", "tax 0 7 -> 7",
        "undo -> 3", "undo -> 2", "tax 0 9 -> 0", "ofIndex 0 6 -> 9");
    edgeOfNumber(13, "tax # 0", "0");
    edge(13, "if percent is not 0 to 100", "index 0 1 0 10 -1 true -> 0", "tax 0 -1 -> IAE", "tax 0 0 -> 0",
        "tax 0 100 -> 0", "tax 0 101 -> IAE", "tax 0 " + LEAST + " -> IAE", "tax 0 " + MOST + " -> IAE",
        "ofIndex 0 6 -> 100");
    edge(0, "a TAX in percent (0 at first)", "index 0 1 0 10 -1 true -> 0", "ofIndex 0 6 -> 0");
  }

  private static void part() {
    edge(14, "Returns the one before, or NONE.", "index 0 1 0 10 -1 true -> 0", "part 0 -1 -> -1",
        "index 0 1 0 10 -1 true -> 1", "part 1 0 -> -1", "part 1 0 -> 0", "part 1 -1 -> 0", "part 1 -1 -> -1",
        "undo -> 6", "undo -> 5", "part 1 0 -> 0");
    edgeOfNumber(14, "part # -1", "-1");
    edge(14, "if whole is not NONE to index - 1",
        "index 0 1 0 10 -1 true -> 0", "part 0 -2 -> IAE", "part 0 -1 -> -1", "part 0 0 -> IAE", "part 0 1 -> IAE",
        "index 0 1 0 10 -1 true -> 1", "index 0 1 0 10 -1 true -> 2", "index 0 1 0 10 -1 true -> 3", "part 3 -2 -> IAE",
        "part 3 -1 -> -1", "part 3 2 -> -1", "part 3 3 -> IAE", "part 3 4 -> IAE", "part 1 0 -> -1", "part 1 1 -> IAE",
        "part 1 2 -> IAE", "part 2 1 -> -1", "part 2 2 -> IAE", "part 0 " + LEAST + " -> IAE",
        "part 3 " + MOST + " -> IAE", "ofIndex 3 7 -> 2", "ofIndex 0 7 -> -1");
    edge(0, "an index of which it is a PART (one with a smaller number; NONE at first).",
        "index 0 1 0 10 -1 true -> 0", "index 0 1 0 10 -1 true -> 1", "ofIndex 0 7 -> -1", "ofIndex 1 7 -> -1",
        "part 1 0 -> -1", "ofIndex 1 7 -> 0", "part 0 1 -> IAE");
  }

  private static void review() {
    edge(15, "Returns how many REVIEWS are due then.",
        "index 0 1 0 10 -1 true -> 0", "index 0 1 0 10 -1 true -> 1", "index 0 1 0 10 -1 true -> 2",
        "index 0 1 0 10 -1 true -> 3", "review 3 -> 1", "review 3 -> 1", "review 0 -> 2", "review 1 -> 3",
        "review 2 -> 4", "review 2 -> 4", "house 5 -> 4", "next -> 1", "house 5 -> 0", "review 1 -> 1", "undo -> 7",
        "undo -> 6", "house 5 -> 4");
    edge(15, "(CHANGE; also if it is due already)", "index 0 1 0 10 -1 true -> 0", "review 0 -> 1", "review 0 -> 1",
        "house 4 -> 3", "undo -> 2", "house 5 -> 1", "undo -> 1", "house 5 -> 0");
    edge(15, "if there is no such INDEX", "review 0 -> IOOBE", "index 0 1 0 10 -1 true -> 0", "review -1 -> IOOBE",
        "review 0 -> 1", "review 1 -> IOOBE", "index 0 1 0 10 -1 true -> 1", "review 1 -> 2", "review 2 -> IOOBE",
        "review " + LEAST + " -> IOOBE", "review " + MOST + " -> IOOBE", "house 5 -> 2");
  }

  private static void ofIndex() {
    edge(26, "Returns that.",
        "index 2 3 1 10 -1 false -> 0", "ofIndex 0 0 -> 2", "ofIndex 0 1 -> 3", "ofIndex 0 2 -> 1", "ofIndex 0 3 -> 10",
        "ofIndex 0 4 -> -1", "ofIndex 0 5 -> 0", "ofIndex 0 6 -> 0", "ofIndex 0 7 -> -1", "ofIndex 0 8 -> 0",
        "ofIndex 0 9 -> -1", "ofIndex 0 10 -> 0", "ofIndex 0 11 -> 0", "review 0 -> 1", "ofIndex 0 10 -> 1",
        "next -> 1", "ofIndex 0 8 -> 0", "ofIndex 0 9 -> -1", "ofIndex 0 10 -> 0", "paper 1 1 0 1 -> 0",
        "index 1 8 0 10 -1 true -> 1", "review 1 -> 1", "next -> 2", "ofIndex 1 5 -> 1", "ofIndex 1 8 -> 1",
        "ofIndex 1 9 -> 1");
    edgeOfNumber(26, "ofIndex # 0", "0");
    edge(26, "if what is not 0 to 11", "index 3 1 0 10 -1 true -> 0", "ofIndex 0 -1 -> IAE", "ofIndex 0 0 -> 3",
        "ofIndex 0 11 -> 0", "ofIndex 0 12 -> IAE", "ofIndex 0 " + LEAST + " -> IAE", "ofIndex 0 " + MOST + " -> IAE");
  }

  private static void level() {
    edge(27, "Returns LEVEL as digits; \"-\", if there is none.",
        "index 0 1 0 100 -1 false -> 0", "level 0 0 -> -", "paper 9 100 0 9 -> 0", "next -> 1", "review 0 -> 1",
        "level 0 0 -> -", "level 0 1 -> -", "next -> 2", "level 0 0 -> -", "level 0 1 -> 1000000",
        "level 0 2 -> 1000000");
    edgeOfNumber(27, "level # 0", "-");
    edge(27, "if day is not 0 to TODAY", "index 0 1 0 100 -1 false -> 0", "level 0 -1 -> IAE", "level 0 0 -> -",
        "level 0 1 -> IAE", "next -> 1", "level 0 -1 -> IAE", "level 0 1 -> -", "level 0 2 -> IAE",
        "level 0 " + LEAST + " -> IAE", "level 0 " + MOST + " -> IAE", "undo -> 1", "level 0 1 -> IAE");
  }

  private static void membersAndWhy() {
    edge(28, "Returns the numbers of its members by the last REVIEW that was \"ok\", rising, with \" \" between.",
        "index 0 2 0 100 -1 false -> 0", "members 0 ->", "review 0 -> 1", "next -> 1", "members 0 ->",
        "paper 1 100 0 9 -> 0", "review 0 -> 1", "next -> 2", "members 0 -> 0", "paper 2 100 0 9 -> 1",
        "paper 3 100 0 9 -> 2", "review 0 -> 1", "next -> 3", "members 0 -> 1 2");
    edgeOfNumber(28, "members #", "");
    edge(29, "Returns what its last REVIEW was: \"ok\", \"none\" or \"cap\"; \"-\" without one.",
        "index 2 2 0 50 -1 false -> 0", "why 0 -> -", "review 0 -> 1", "why 0 -> -", "next -> 1", "why 0 -> none",
        "paper 1 100 0 9 -> 0", "review 0 -> 1", "next -> 2", "why 0 -> cap", "paper 1 100 0 9 -> 1", "review 0 -> 1",
        "why 0 -> cap", "next -> 3", "why 0 -> ok", "merge 0 1 1 1 -> 2", "review 0 -> 1", "next -> 4", "why 0 -> cap",
        "members 0 -> 0 1", "next -> 5", "why 0 -> cap", "undo -> 7", "undo -> 6", "why 0 -> ok");
    edgeOfNumber(29, "why #", "-");
  }

  private static void weightAndCut() {
    edge(30, "Returns its WEIGHT by the last REVIEW that was \"ok\", as a FRACTION; \"0/1\", if it was no member then.",
        "index 0 2 0 100 -1 false -> 0", "paper 6 100 0 9 -> 0", "weight 0 0 -> 0/1", "review 0 -> 1",
        "weight 0 0 -> 0/1", "next -> 1", "weight 0 0 -> 1/1", "paper 4 100 0 9 -> 1", "weight 0 1 -> 0/1",
        "paper 7 100 0 9 -> 2", "review 0 -> 1", "weight 0 0 -> 1/1", "next -> 2", "weight 0 0 -> 6/13",
        "weight 0 1 -> 0/1", "weight 0 2 -> 7/13", "spin 2 1 1 9 -> 3", "weight 0 3 -> 0/1", "merge 2 0 1 1 -> 13",
        "weight 0 2 -> 7/13",
        // one that was a member ahead of that is none any more
        "review 0 -> 1", "next -> 3", "members 0 -> 0 3", "weight 0 2 -> 0/1", "weight 0 0 -> 13/20",
        "weight 0 3 -> 7/20");
    edge(30, "if there is no such INDEX or PAPER",
        "weight 0 0 -> IOOBE", "paper 5 9 0 1 -> 0", "weight 0 0 -> IOOBE", "index 0 1 0 100 -1 false -> 0",
        "weight 0 0 -> 0/1", "weight -1 0 -> IOOBE", "weight 1 0 -> IOOBE", "weight 0 -1 -> IOOBE",
        "weight 0 1 -> IOOBE", "weight " + LEAST + " 0 -> IOOBE", "weight " + MOST + " 0 -> IOOBE",
        "weight 0 " + LEAST + " -> IOOBE", "weight 0 " + MOST + " -> IOOBE");
    edge(31, "Returns 1 if it was CUT by that REVIEW, otherwise 0.",
        "index 2 2 0 50 -1 false -> 0", "paper 6 100 0 9 -> 0", "paper 4 100 0 9 -> 1", "isCut 0 0 -> 0",
        "review 0 -> 1", "isCut 0 0 -> 0", "next -> 1", "isCut 0 0 -> 1", "isCut 0 1 -> 0", "count 1 8 -> 4",
        "review 0 -> 1", "isCut 0 1 -> 0", "next -> 2", "isCut 0 0 -> 0", "isCut 0 1 -> 1", "count 1 6 -> 8",
        "review 0 -> 1", "next -> 3", "isCut 0 0 -> 0", "isCut 0 1 -> 0", "count 1 5 -> 6", "review 0 -> 1",
        "next -> 4", "isCut 0 0 -> 1",
        // a REVIEW that is not "ok" changes nothing of it
        "merge 1 0 1 1 -> 11", "review 0 -> 1", "next -> 5", "why 0 -> cap", "isCut 0 0 -> 1");
    edge(31, "if there is no such INDEX or PAPER",
        "isCut 0 0 -> IOOBE", "paper 5 9 0 1 -> 0", "isCut 0 0 -> IOOBE", "index 0 1 0 100 -1 false -> 0",
        "isCut 0 0 -> 0", "isCut -1 0 -> IOOBE", "isCut 1 0 -> IOOBE", "isCut 0 -1 -> IOOBE", "isCut 0 1 -> IOOBE",
        "isCut " + LEAST + " 0 -> IOOBE", "isCut " + MOST + " 0 -> IOOBE", "isCut 0 " + LEAST + " -> IOOBE",
        "isCut 0 " + MOST + " -> IOOBE");
  }

  private static void part10000() {
    edge(32, "Returns the floor of 10000 times what part of the worth of the BASKET in force it has now; 0 without a BASKET.",
        "paper 1 100 0 1 -> 0", "paper 1 100 0 1 -> 1", "index 0 2 0 100 -1 false -> 0", "part10000 0 0 -> 0",
        "review 0 -> 1", "part10000 0 0 -> 0", "next -> 1", "part10000 0 0 -> 5000", "part10000 0 1 -> 5000",
        // just 1 of 10000, then less
        "price 0 1 9999 -> 1", "part10000 0 0 -> 9999", "part10000 0 1 -> 1", "price 0 1 10000 -> 1",
        "part10000 0 0 -> 9999", "part10000 0 1 -> 0", "price 0 1 9998 -> 1", "part10000 0 0 -> 9998",
        "part10000 0 1 -> 1", "paper 1 1 0 1 -> 2", "part10000 0 2 -> 0", "merge 1 0 20 1 -> 21",
        "part10000 0 0 -> 10000", "part10000 0 1 -> 0");
    edge(32, "if there is no such INDEX or PAPER",
        "part10000 0 0 -> IOOBE", "paper 5 9 0 1 -> 0", "part10000 0 0 -> IOOBE", "index 0 1 0 100 -1 false -> 0",
        "part10000 0 0 -> 0", "part10000 -1 0 -> IOOBE", "part10000 1 0 -> IOOBE", "part10000 0 -1 -> IOOBE",
        "part10000 0 1 -> IOOBE", "part10000 " + LEAST + " 0 -> IOOBE", "part10000 " + MOST + " 0 -> IOOBE",
        "part10000 0 " + LEAST + " -> IOOBE", "part10000 0 " + MOST + " -> IOOBE");
  }

  private static void common() {
    edge(33, "Returns how many members both have.",
        "index 0 8 0 100 -1 false -> 0", "index 0 8 0 100 0 false -> 1", "index 0 8 0 100 1 false -> 2",
        "common 0 1 -> 0", "common 0 0 -> 0", "paper 9 100 0 1 -> 0", "paper 8 100 1 1 -> 1", "paper 7 100 0 1 -> 2",
        "review 0 -> 1", "review 1 -> 2", "common 0 1 -> 0", "next -> 1", "common 0 1 -> 2", "common 1 0 -> 2",
        "common 0 0 -> 3", "common 1 1 -> 2", "common 1 2 -> 0", "review 2 -> 1", "next -> 2", "common 1 2 -> 0",
        "common 2 0 -> 1", "common 2 2 -> 1", "merge 1 0 1 1 -> 17", "common 2 0 -> 1");
    edge(33, "if there is no such INDEX (both)",
        "common 0 0 -> IOOBE", "index 0 1 0 100 -1 false -> 0", "common 0 0 -> 0", "common 0 -1 -> IOOBE",
        "common -1 0 -> IOOBE", "common 0 1 -> IOOBE", "common 1 0 -> IOOBE", "common 1 1 -> IOOBE",
        "common 0 " + LEAST + " -> IOOBE", "common " + LEAST + " 0 -> IOOBE", "common 0 " + MOST + " -> IOOBE",
        "common " + MOST + " 0 -> IOOBE", "index 0 1 0 100 -1 false -> 1", "common 1 0 -> 0", "common 1 1 -> 0",
        "common 1 2 -> IOOBE", "common 2 1 -> IOOBE");
  }

  private static void growth() {
    edge(34, "Returns LEVEL of to, divided by that of from, as a FRACTION; \"-\", if one of both is none,"
        + " or that of from is 0.",
        "paper 9 100 0 99999 -> 0", "index 1 1 0 100 -1 false -> 0", "growth 0 0 0 -> -", "next -> 1", "review 0 -> 1",
        "growth 0 1 1 -> -", "next -> 2", "growth 0 1 1 -> 1/1", "growth 0 0 1 -> -", "growth 0 1 0 -> -",
        "growth 0 0 0 -> -", "growth 0 1 2 -> 1/1", "price 0 2 1 -> 1", "growth 0 1 2 -> 1/100000",
        "growth 0 2 1 -> 100000/1", "next -> 3", "split 0 1 20 -> 1", "growth 0 2 3 -> 1/10", "split 0 1 2 -> 1",
        "growth 0 2 3 -> 0/1", "growth 0 3 2 -> -", "growth 0 3 3 -> -", "growth 0 0 3 -> -", "growth 0 3 0 -> -");
    edgeOfNumber(34, "growth # 0 0", "-");
    edge(34, "if from or to is not 0 to TODAY",
        "index 0 1 0 100 -1 false -> 0", "growth 0 -1 0 -> IAE", "growth 0 0 -1 -> IAE", "growth 0 0 0 -> -",
        "growth 0 1 0 -> IAE", "growth 0 0 1 -> IAE", "next -> 1", "growth 0 1 0 -> -", "growth 0 0 1 -> -",
        "growth 0 1 1 -> -", "growth 0 2 0 -> IAE", "growth 0 0 2 -> IAE", "growth 0 " + LEAST + " 0 -> IAE",
        "growth 0 0 " + LEAST + " -> IAE", "growth 0 " + MOST + " 0 -> IAE", "growth 0 0 " + MOST + " -> IAE");
  }

  private static void report() {
    edge(35, "Returns for each PAPER in the BASKET in force, rising: its number, filled up to two signs with \" \" ahead,",
        "paper 1 100 0 1 -> 0", "paper 1 100 0 1 -> 1", "index 0 2 0 100 -1 false -> 0", "report 0 ->",
        "review 0 -> 1", "report 0 ->", "next -> 1", "report 0 ->  0  50.00; 1  50.00;", "price 0 1 9999 -> 1",
        "report 0 ->  0  99.99; 1   0.01;", "price 0 1 10000 -> 1", "report 0 ->  0  99.99; 1   0.00;",
        "price 0 1 9 -> 1", "report 0 ->  0  90.00; 1  10.00;", "price 0 1 10 -> 1",
        "report 0 ->  0  90.90; 1   9.09;", "price 0 1 1 -> 1", "merge 0 1 1 1 -> 2", "report 0 ->  1 100.00;");
    String[] ten = new String[12];
    for (int p = 0; p < 10; p++) {
      ten[p] = "paper " + (p + 1) + " 100 0 1 -> " + p;
    }
    ten[10] = "index 1 1 0 100 -1 false -> 0";
    ten[11] = "review 0 -> 1";
    edge(35, "filled up to six signs with \" \" ahead, and \";\".", ten, "next -> 1", "report 0 ->  9 100.00;");
    edgeOfNumber(35, "report #", "");
  }

  private static void changed() {
    String returns = "Returns which LEVELS were others by the last price() of those that are not undone"
        + " (\"\" without one)";
    edge(36, returns, AT_128,
        "changed ->", "price 0 1 64 -> 1", "changed -> 0:1", "price 0 1 64 -> 0", "changed ->", "undo -> 5",
        "changed -> 0:1", "next -> 2", "pay 0 1 -> 0", "count 0 5 -> 1000", "changed -> 0:1", "undo -> 7", "undo -> 6",
        "undo -> 5", "changed -> 0:1", "price 0 9 1 -> IAE", "changed -> 0:1", "undo -> 4", "changed ->");
    // LEVELS that are no more, from the DAY 0 on
    edge(36, returns,
        "paper 10 100 0 10 -> 0", "paper 10 100 1 9 -> 1", "index 0 1 0 100 -1 false -> 0",
        "index 0 1 0 100 0 false -> 1", "part 1 0 -> -1", "review 0 -> 1", "review 1 -> 2", "next -> 1",
        "price 0 0 8 -> 2", "changed -> 1:0 1:1", "level 1 0 -> -", "price 0 0 9 -> 2", "changed -> 1:0 1:1",
        "level 1 0 -> 1000000");
    // a price() that can no longer be taken back is one that is not undone
    edge(36, returns, AT_128, EdgeHelp.join(new String[] {"price 0 1 64 -> 1"},
        EdgeHelp.join(EdgeHelp.times(9, "tax 0 0 -> 0"), EdgeHelp.join(new String[] {"changed -> 0:1", "house 4 -> 8",
            "undo -> 7", "undo -> 6", "undo -> 5", "undo -> 4", "undo -> 3", "undo -> 2", "undo -> 1", "undo -> 0"},
            "undo -> ISE", "changed -> 0:1"))));
    String[] all = new String[51];
    StringBuilder text = new StringBuilder();
    all[0] = "paper 1000 100 0 10 -> 0";
    for (int i = 0; i < 4; i++) {
      all[1 + i] = "index " + i + " 1 0 100 -1 false -> " + i;
      all[5 + i] = "review " + i + " -> " + (i + 1);
      for (int day = 1; day <= 40; day++) {
        text.append(text.length() == 0 ? "" : " ").append(i).append(":").append(day);
      }
    }
    for (int day = 1; day <= 40; day++) {
      all[8 + day] = "next -> " + day;
    }
    all[49] = "price 0 1 11 -> 160";
    all[50] = "changed -> " + text;
    edge(36, "for each INDEX and DAY its number, \":\", the DAY, with \" \" between (by INDEXES, then by DAYS).", all);
  }
}
