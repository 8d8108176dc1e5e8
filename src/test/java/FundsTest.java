/** Promises 16 to 20 and 37 to 44: funds and what is asked of them. */
public final class FundsTest {
  /** One paper at 7, and a fund with 3 units that holds 428 of it and 4 coins; today is 1. */
  private static final String[] THREE_UNITS = {
    "paper 1000 100 0 7 -> 0", "index 0 1 0 100 -1 false -> 0", "fund 0 0 0 1 -> 0", "make 0 3 -> 3",
    "review 0 -> 1", "next -> 1", "trade 0 -> 1", "held 0 0 -> 428", "money 0 0 -> 4",
  };
  /** One paper at 100, and a fund with 1 unit that holds 10 of it and no coins; today is 1. */
  private static final String[] ONE_UNIT = {
    "paper 1000 100 0 100 -> 0", "index 1 1 0 100 -1 false -> 0", "fund 0 999 0 1 -> 0", "make 0 1 -> 1",
    "review 0 -> 1", "next -> 1", "trade 0 -> 1", "held 0 0 -> 10", "money 0 0 -> 0",
  };
  /** One paper at 150, and a fund with 3 units that holds 21 of it and owes a coin; today is 1. */
  private static final String[] THIRDS = {
    "paper 1000 100 0 150 -> 0", "index 1 1 0 100 -1 false -> 0", "fund 0 0 0 1 -> 0", "make 0 3 -> 3",
    "review 0 -> 1", "next -> 1", "trade 0 -> 1", "rights 0 1 20 1 -> 1050", "held 0 0 -> 21", "money 0 0 -> -1",
  };
  /** Three alike papers at 10; fund 0 holds two of them, fund 1 lots of 7; today is 1. */
  private static final String[] TWO_FUNDS = {
    "paper 100 100 0 10 -> 0", "paper 100 100 0 10 -> 1", "paper 100 100 0 10 -> 2",
    "index 1 3 0 100 -1 false -> 0", "fund 0 0 2 1 -> 0", "fund 0 0 0 7 -> 1", "make 0 1 -> 1",
    "make 1 1 -> 1", "review 0 -> 1", "next -> 1",
  };

  private FundsTest() {
  }

  public static void main(String[] args) {
    fund();
    make();
    take();
    toldAnew();
    trade();
    lend();
    ofFund();
    money();
    held();
    unit();
    would();
    error();
    gain();
    collateral();
    ScriptHelp.close("funds");
  }

  private static void check(int promise, String[] start, String... script) {
    String[] all = new String[start.length + script.length];
    System.arraycopy(start, 0, all, 0, start.length);
    System.arraycopy(script, 0, all, start.length, script.length);
    ScriptHelp.check(promise, all);
  }

  private static void fund() {
    ScriptHelp.check(16,
        "fund 0 0 0 1 -> IOOBE", "index 0 1 0 100 -1 false -> 0", "index 0 1 0 100 -1 false -> 1",
        "fund 0 0 0 1 -> 0", "fund 1 999 8 100 -> 1", "ofFund 0 0 -> 0", "ofFund 0 1 -> 0", "ofFund 0 2 -> 0",
        "ofFund 0 3 -> 1", "ofFund 1 0 -> 1", "ofFund 1 1 -> 999", "ofFund 1 2 -> 8", "ofFund 1 3 -> 100",
        "ofFund 1 4 -> 0", "ofFund 1 5 -> 0", "ofFund 1 6 -> 0", "ofFund 1 7 -> 0", "ofFund 1 8 -> 0",
        "money 1 0 -> 0", "money 1 1 -> 0", "money 1 2 -> 0",
        "fund 0 -1 0 1 -> IAE", "fund 0 1000 0 1 -> IAE", "fund 0 0 -1 1 -> IAE", "fund 0 0 9 1 -> IAE",
        "fund 0 0 0 0 -> IAE", "fund 0 0 0 101 -> IAE", "fund 2 -1 0 1 -> IOOBE", "fund -1 0 0 1 -> IOOBE",
        "house 3 -> 2", "house 4 -> 4", "fund 0 5 5 5 -> 2", "make 2 7 -> 7", "fund 0 0 0 1 -> ISE",
        "fund 0 0 0 0 -> IAE", "fund 2 0 0 1 -> IOOBE", "undo -> 5", "undo -> 4", "house 3 -> 2",
        "fund 1 6 0 1 -> 2", "ofFund 2 1 -> 6", "ofFund 2 4 -> 0", "money 2 0 -> 0");
  }

  private static void make() {
    check(17, THREE_UNITS,
        // 142 come, and 1000 - 994
        "make 0 1 -> 4", "held 0 0 -> 570", "money 0 0 -> 10", "ofFund 0 5 -> 0", "pay 0 1 -> 570",
        // 142 come, and the ceiling of 1142.5 - 994
        "make 0 1 -> 5", "held 0 0 -> 712", "money 0 0 -> 729", "ofFund 0 5 -> 500",
        "make 0 0 -> IAE", "make 0 10000 -> IAE", "make 1 0 -> IOOBE", "make -1 1 -> IOOBE", "ofFund 0 4 -> 5");
    // a call that is refused is no change
    ScriptHelp.check(17,
        "index 0 1 0 100 -1 false -> 0", "fund 0 0 0 1 -> 0", "make 0 9999 -> 9999", "make 0 9999 -> 19998",
        "make 0 9999 -> 29997", "make 0 9999 -> 39996", "make 0 9999 -> 49995", "make 0 9999 -> 59994",
        "make 0 9999 -> 69993", "make 0 9999 -> 79992", "make 0 9999 -> 89991", "make 0 9999 -> 99990",
        "undo -> 7", "make 0 10 -> 90001", "make 0 9999 -> -9", "make 0 9998 -> 99999", "undo -> 7",
        "make 0 9999 -> -9", "make 0 10000 -> IAE", "house 4 -> 7", "ofFund 0 4 -> 90001", "money 0 0 -> 90001000",
        "make 0 9998 -> 99999", "make 0 1 -> -9", "house 4 -> 8", "ofFund 0 4 -> 99999");
    check(17, ONE_UNIT,
        // money below 0, what is worth above it: 20 come, and 1500 - 2000
        "rights 0 1 1 50 -> 2000", "money 0 0 -> -500", "make 0 2 -> 3", "held 0 0 -> 60", "money 0 0 -> -1500",
        // with nothing or less no more are made
        "rights 0 1 20 1500 -> 2100", "held 0 0 -> 63", "money 0 0 -> -6000", "money 0 1 -> 300",
        "rights 0 1 20 200 -> 2205", "held 0 0 -> 66", "money 0 1 -> 0", "house 4 -> 8", "make 0 1 -> -9",
        "make 0 0 -> IAE", "take 0 1 -> -9", "rights 0 1 20 101 -> 2315", "money 0 1 -> -3", "make 0 1 -> -9",
        "make 0 9999 -> -9", "ofFund 0 4 -> 3");
    check(17, ONE_UNIT,
        "rights 0 20 1 105 -> 21000", "money 0 1 -> 0", "make 0 1 -> -9", "make 0 10000 -> IAE", "house 4 -> 8");
    // 7 come, and the ceiling of 1049.67 - 1050
    check(17, THIRDS, "make 0 1 -> 4", "held 0 0 -> 28", "money 0 0 -> -1", "ofFund 0 5 -> 333");
  }

  private static void take() {
    check(18, THREE_UNITS,
        "make 0 1 -> 4", "pay 0 1 -> 570", "make 0 1 -> 5", "ofFund 0 5 -> 500",
        // 284 go, and the floor of 2285.2 - 1988
        "take 0 2 -> 3", "held 0 0 -> 428", "money 0 0 -> 432", "ofFund 0 5 -> 700", "house 4 -> 8",
        "take 0 4 -> -9", "take 0 9999 -> -9", "take 0 0 -> IAE", "take 0 10000 -> IAE", "take 1 0 -> IOOBE",
        "take -1 1 -> IOOBE", "ofFund 0 4 -> 3", "undo -> 7", "ofFund 0 4 -> 5", "held 0 0 -> 712",
        "take 0 5 -> 0", "held 0 0 -> 0", "money 0 0 -> 0", "ofFund 0 5 -> 500", "take 0 1 -> -9",
        "make 0 2 -> 2", "money 0 0 -> 2000");
    check(18, ONE_UNIT,
        // 60 and -1501 at 3 units: 20 go, and the floor of 1499.67 - 2000
        "rights 0 1 1 50 -> 2000", "make 0 2 -> 3", "rights 0 1 20 34 -> 2100", "held 0 0 -> 63",
        "money 0 0 -> -1602", "take 0 2 -> 1", "held 0 0 -> 21", "money 0 0 -> -534",
        "make 0 6 -> 7", "held 0 0 -> 147", "money 0 0 -> -3738", "rights 0 1 20 1 -> 2205", "held 0 0 -> 154",
        // 11655 over 7 is 1665: 22 go, and 1665 - 2200; then 2 * 9990 / 6 = 3330 and 44
        "money 0 0 -> -3745", "take 0 1 -> 6", "held 0 0 -> 132", "money 0 0 -> -3210", "ofFund 0 5 -> 0",
        "price 0 1 101 -> 1", "take 0 1 -> 5");
    check(18, ONE_UNIT,
        "rights 0 20 1 105 -> 21000", "money 0 0 -> -21000", "held 0 0 -> 210", "money 0 1 -> 0",
        "take 0 1 -> -9", "take 0 0 -> IAE", "house 4 -> 8");
    // 7 go, and the floor of 1049.67 - 1050
    check(18, THIRDS, "take 0 1 -> 2", "held 0 0 -> 14", "money 0 0 -> 0", "ofFund 0 5 -> 666");
  }

  /** By a late price calls are told anew that would be refused by it. */
  private static void toldAnew() {
    check(17, ONE_UNIT,
        "rights 0 1 1 50 -> 2000", "make 0 1 -> 2", "held 0 0 -> 40", "money 0 0 -> -1000",
        // at 1 there are 1000 held, and 1000 new ones for 50 each
        "price 0 1 1 -> 1", "ofFund 0 4 -> 2", "held 0 0 -> 4000", "money 0 0 -> -100000",
        "money 0 1 -> -96000", "make 0 1 -> -9", "isSound -> true", "undo -> 7", "held 0 0 -> 40");
    check(18, ONE_UNIT,
        "rights 0 1 1 50 -> 2000", "make 0 2 -> 3", "take 0 1 -> 2", "price 0 1 1 -> 1", "ofFund 0 4 -> 2",
        "held 0 0 -> 4000", "money 0 0 -> -100000", "take 0 1 -> -9", "isSound -> true");
    // a trade that has no basket any more does nothing
    ScriptHelp.check(19,
        "paper 10 100 0 10 -> 0", "paper 10 100 1 9 -> 1", "index 0 1 0 100 -1 false -> 0",
        "index 0 1 0 100 0 false -> 1", "part 1 0 -> -1", "fund 1 0 0 1 -> 0", "make 0 1 -> 1",
        "review 0 -> 1", "review 1 -> 2", "next -> 1", "trade 0 -> 1", "held 0 0 -> 100", "price 0 0 8 -> 2",
        "held 0 0 -> 0", "money 0 0 -> 1000", "ofFund 0 7 -> 0", "trade 0 -> -9", "would 0 -> -",
        "isSound -> true");
  }

  private static void trade() {
    check(19, TWO_FUNDS,
        "trade 2 -> IOOBE", "trade -1 -> IOOBE", "trade 0 -> 2", "held 0 0 -> 50", "held 0 1 -> 50",
        "held 0 2 -> 0", "money 0 0 -> 0", "trade 0 -> 0", "ofFund 0 7 -> 0", "undo -> 7", "ofFund 0 7 -> 2",
        // 33.33 each, in lots of 7
        "trade 1 -> 3", "held 1 0 -> 28", "held 1 1 -> 28", "held 1 2 -> 28", "money 1 0 -> 160",
        // the paper 2 is worth most now: the trade is told anew
        "price 2 1 11 -> 1", "held 0 0 -> 47", "held 0 1 -> 0", "held 0 2 -> 47", "money 0 0 -> 13",
        "next -> 2", "price 2 2 9 -> 1", "trade 0 -> 3", "held 0 0 -> 45", "held 0 1 -> 45", "held 0 2 -> 0",
        "money 0 0 -> 6", "money 0 1 -> 906", "ofFund 0 7 -> 3");
    ScriptHelp.check(19,
        "index 0 1 0 100 -1 false -> 0", "fund 0 0 0 1 -> 0", "make 0 1 -> 1", "trade 0 -> -9", "house 4 -> 3",
        "paper 5 100 0 1000 -> 0", "review 0 -> 1", "trade 0 -> -9", "next -> 1", "trade 0 -> 1",
        "held 0 0 -> 1", "money 0 0 -> 0");
    check(19, ONE_UNIT,
        // what is worth 0 or less holds nothing behind a trade
        "rights 0 20 1 105 -> 21000", "money 0 1 -> 0", "trade 0 -> 1", "held 0 0 -> 0", "money 0 0 -> 0",
        "undo -> 7", "rights 0 1 20 200 -> 22050", "money 0 1 -> -1000", "trade 0 -> 1", "held 0 0 -> 0",
        "money 0 0 -> -1000", "trade 0 -> 0");
    ScriptHelp.check(19,
        // a paper that the index no longer has is sold
        "paper 10 100 0 10 -> 0", "paper 9 100 0 10 -> 1", "index 0 1 0 100 -1 false -> 0", "fund 0 0 0 1 -> 0",
        "make 0 1 -> 1", "review 0 -> 1", "next -> 1", "trade 0 -> 1", "count 1 11 -> 9", "review 0 -> 1",
        "next -> 2", "trade 0 -> 2", "held 0 0 -> 0", "held 0 1 -> 100");
  }

  private static void lend() {
    check(20, THREE_UNITS,
        "lend 0 0 50 -> 0", "lend 0 0 100 -> 50", "lend 0 0 0 -> 100", "lend 0 0 -1 -> IAE", "lend 0 0 101 -> IAE",
        "lend 0 1 -1 -> IOOBE", "lend 1 0 101 -> IOOBE", "lend -1 0 1 -> IOOBE", "lend 0 -1 1 -> IOOBE",
        "house 4 -> 8", "lend 0 0 99 -> 0", "undo -> 7", "votes 0 true -> 428", "lend 0 0 99 -> 0",
        // the percent stays, the number goes with the holding: 423 of 428, then 141 of 143
        "votes 0 true -> 5", "take 0 2 -> 1", "held 0 0 -> 143", "votes 0 true -> 2");
  }

  private static void ofFund() {
    check(37, TWO_FUNDS,
        "ofFund 2 0 -> IOOBE", "ofFund -1 0 -> IOOBE", "ofFund 0 -1 -> IAE", "ofFund 0 9 -> IAE",
        "ofFund 2 9 -> IOOBE", "ofFund 0 6 -> 0", "ofFund 0 7 -> 0", "trade 0 -> 2", "trade 1 -> 3",
        "ofFund 0 0 -> 0", "ofFund 0 1 -> 0", "ofFund 0 2 -> 2", "ofFund 0 3 -> 1", "ofFund 0 4 -> 1",
        "ofFund 0 5 -> 0", "ofFund 0 6 -> 2", "ofFund 0 7 -> 2", "ofFund 0 8 -> 0", "ofFund 1 2 -> 0",
        "ofFund 1 3 -> 7", "ofFund 1 6 -> 3", "ofFund 1 7 -> 3");
    ScriptHelp.check(37,
        "index 0 1 0 100 -1 false -> 0", "fund 0 999 0 1 -> 0", "fund 0 1 0 1 -> 1", "make 0 1 -> 1",
        "make 1 9999 -> 9999", "ofFund 0 8 -> 0", "next -> 1", "ofFund 0 8 -> 999000", "next -> 2",
        "ofFund 0 8 -> 1998000", "next -> 3", "ofFund 0 8 -> 2997000", "money 0 2 -> 0", "next -> 4",
        "ofFund 0 8 -> 346000", "money 0 0 -> 999", "money 0 2 -> 1",
        // 2 coins and 2699000, then 9998998 to go on with
        "undo -> 7", "undo -> 6", "undo -> 5", "ofFund 1 8 -> 2699000", "money 1 0 -> 9998998",
        "next -> 2", "ofFund 1 8 -> 1747998", "money 1 0 -> 9998995");
  }

  private static void money() {
    check(38, ONE_UNIT,
        "money 1 0 -> IOOBE", "money -1 0 -> IOOBE", "money 0 -1 -> IAE", "money 0 3 -> IAE", "money 1 3 -> IOOBE",
        "money 0 0 -> 0", "money 0 1 -> 1000", "money 0 2 -> 0", "price 0 1 99 -> 1",
        // told anew, the trade is made at 99: 10 and 10 coins
        "money 0 0 -> 10", "money 0 1 -> 1000", "next -> 2", "price 0 2 98 -> 1", "money 0 1 -> 990",
        "rights 0 1 1 500 -> 2000", "money 0 0 -> -4990", "money 0 1 -> -3030",
        // a fund that is worth less than nothing pays no fee
        "ofFund 0 8 -> 1998000", "next -> 3", "ofFund 0 8 -> 1998000", "money 0 2 -> 0");
    ScriptHelp.check(38,
        "index 0 1 0 100 -1 false -> 0", "fund 0 999 0 1 -> 0", "make 0 9999 -> 9999", "money 0 0 -> 9999000",
        // 9999000 * 999 = 2736 * 3650000 + 2601000
        "next -> 1", "money 0 2 -> 2736", "ofFund 0 8 -> 2601000", "money 0 0 -> 9996264", "next -> 2",
        "money 0 2 -> 5472", "money 0 1 -> 9993528");
  }

  private static void held() {
    check(39, TWO_FUNDS,
        "held 0 0 -> 0", "held 2 0 -> IOOBE", "held 0 3 -> IOOBE", "held -1 0 -> IOOBE", "held 0 -1 -> IOOBE",
        "trade 1 -> 3", "held 1 0 -> 28", "held 0 0 -> 0", "split 0 20 1 -> 2000", "held 1 0 -> 560",
        "held 1 1 -> 28");
  }

  private static void unit() {
    check(40, THREE_UNITS,
        "unit 0 -> 1000/1", "pay 0 1 -> 428", "unit 0 -> 3428/3", "make 0 1 -> 4", "unit 0 -> 4571/4",
        "unit 1 -> IOOBE", "unit -1 -> IOOBE", "take 0 4 -> 0", "unit 0 -> -", "make 0 2 -> 2",
        "unit 0 -> 1000/1");
    check(40, ONE_UNIT,
        "rights 0 20 1 105 -> 21000", "unit 0 -> 0/1", "rights 0 1 20 200 -> 22050", "unit 0 -> -1000/1");
    check(40, ONE_UNIT,
        "make 0 5 -> 6", "rights 0 1 4 501 -> 1250", "money 0 1 -> -15", "unit 0 -> -5/2");
  }

  private static void would() {
    check(41, TWO_FUNDS,
        "would 2 -> IOOBE", "would -1 -> IOOBE", "would 0 -> 0:50 1:50", "would 1 -> 0:28 1:28 2:28",
        "trade 0 -> 2", "trade 1 -> 3", "would 0 ->", "would 1 ->", "next -> 2", "price 2 2 11 -> 1",
        "would 0 -> 0:-3 1:-50 2:47", "held 0 1 -> 50", "house 4 -> 8", "price 2 2 9 -> 1", "would 0 ->");
    ScriptHelp.check(41,
        "paper 1 100 0 10 -> 0", "index 0 1 0 100 -1 false -> 0", "fund 0 0 0 1 -> 0", "would 0 -> -",
        "make 0 1 -> 1", "would 0 -> -", "review 0 -> 1", "would 0 -> -", "next -> 1", "would 0 -> 0:100");
    check(41, ONE_UNIT,
        "rights 0 20 1 105 -> 21000", "would 0 -> 0:-210", "rights 0 1 20 200 -> 22050", "would 0 -> 0:-220");
  }

  private static void error() {
    ScriptHelp.check(42,
        "error 0 -> IOOBE", "paper 10 100 0 10 -> 0", "index 0 1 0 100 -1 false -> 0", "fund 0 0 0 1 -> 0",
        "error 0 -> 0", "error 1 -> IOOBE", "error -1 -> IOOBE", "make 0 1 -> 1", "review 0 -> 1", "next -> 1",
        // 1 - 1.1
        "price 0 1 11 -> 1", "trade 0 -> 1", "error 0 -> 0", "next -> 2", "error 0 -> 10000000000",
        // 1.09 - 12/11 is 909.09 millionths below 0
        "price 0 2 12 -> 1", "next -> 3", "error 0 -> 10000828100", "undo -> 7", "error 0 -> 10000000000",
        // without units there is nothing to compare
        "take 0 1 -> 0", "next -> 3", "make 0 1 -> 1", "next -> 4", "error 0 -> 10000000000",
        "price 0 4 24 -> 1", "next -> 5", "error 0 -> 1010000000000");
    // behind the fee: 9993528 / 9996264 - 1 is 273.7 millionths below 0
    ScriptHelp.check(42,
        "paper 10 100 0 10 -> 0", "index 0 1 0 100 -1 false -> 0", "fund 0 999 0 1 -> 0", "make 0 9999 -> 9999",
        "review 0 -> 1", "next -> 1", "next -> 2", "error 0 -> 75076");
    // what a unit is worth counts, not all of them; and a day that a late price takes the level from does not
    ScriptHelp.check(42,
        "paper 10 100 0 10 -> 0", "paper 10 100 1 9 -> 1", "index 0 1 0 100 -1 false -> 0",
        "index 0 1 0 100 0 false -> 1", "part 1 0 -> -1", "fund 1 0 0 1 -> 0", "make 0 1 -> 1",
        "review 0 -> 1", "review 1 -> 2", "next -> 1", "make 0 7 -> 8", "next -> 2", "error 0 -> 0",
        "price 0 2 11 -> 2", "next -> 3", "error 0 -> 10000000000", "price 0 0 8 -> 6", "error 0 -> 0");
    // with nothing it is worth there is nothing to compare
    check(42, ONE_UNIT,
        "rights 0 20 1 105 -> 21000", "money 0 1 -> 0", "next -> 2", "pay 0 1 -> 210", "next -> 3", "error 0 -> 0");
    // told anew, a fund knows nothing of how it stood when it was told ahead
    ScriptHelp.check(42,
        "paper 10 100 0 10 -> 0", "index 0 1 0 100 -1 false -> 0", "review 0 -> 1", "next -> 1",
        "fund 0 0 0 1 -> 0", "make 0 1 -> 1", "price 0 1 11 -> 1", "next -> 2", "error 0 -> 0",
        "price 0 2 22 -> 1", "next -> 3", "error 0 -> 1000000000000", "price 0 0 10 -> 0", "price 0 0 10 -> 0",
        "price 0 0 10 -> 0", "error 0 -> 1000000000000");
  }

  private static void gain() {
    check(43, THREE_UNITS,
        "gain 0 1000 -> 0", "gain 0 1001 -> 1m", "gain 0 999 -> 1t", "gain 0 999999 -> 998999m",
        "gain 0 1 -> 999t", "gain 0 0 -> IAE", "gain 0 1000000 -> IAE", "gain 1 0 -> IOOBE", "gain -1 1 -> IOOBE",
        // 3428 / 3 = 1142.67
        "pay 0 1 -> 428", "gain 0 1143 -> 0m", "gain 0 1142 -> 0t", "gain 0 1144 -> 1m", "gain 0 1141 -> 1t",
        "take 0 3 -> 0", "gain 0 1000 -> -", "gain 0 0 -> IAE");
    check(43, ONE_UNIT,
        "rights 0 20 1 106 -> 21000", "unit 0 -> -200/1", "gain 0 1 -> 201m");
  }

  private static void collateral() {
    check(44, THREE_UNITS,
        "collateral 0 -> 0", "collateral 1 -> IOOBE", "collateral -1 -> IOOBE",
        // 1498 * 105 / 100 = 1572.9; 4 * 7 * 105 / 100 = 29.4
        "lend 0 0 50 -> 0", "collateral 0 -> 1573", "lend 0 0 1 -> 50", "collateral 0 -> 30",
        // half of 428 of the new one at 3: 674.1
        "spin 0 1 1 3 -> 1", "collateral 0 -> 30", "lend 0 1 50 -> 0", "collateral 0 -> 705",
        "price 0 1 20 -> 1", "held 0 0 -> 150", "collateral 0 -> 258", "lend 0 0 0 -> 1", "collateral 0 -> 237");
  }
}
