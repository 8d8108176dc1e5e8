/** Promises 1 to 11 and 21 to 25: papers, days, what happens to papers, what is asked of them. */
public final class PapersTest {
  private PapersTest() {
  }

  public static void main(String[] args) {
    newObject();
    paper();
    price();
    latePrice();
    count();
    free();
    split();
    pay();
    rights();
    spin();
    merge();
    next();
    ofPaper();
    priceOn();
    size();
    votes();
    rank();
    ScriptHelp.close("papers");
  }

  private static void newObject() {
    ScriptHelp.check(1,
        "house 0 -> 0", "house 1 -> 0", "house 2 -> 0", "house 3 -> 0", "house 4 -> 0", "house 5 -> 0",
        "house 6 -> 0", "house 7 -> 0", "changed ->", "isSound -> true", "undo -> ISE",
        "size 0 -> IOOBE", "level 0 0 -> IOOBE", "unit 0 -> IOOBE", "next -> 1");
  }

  private static void paper() {
    ScriptHelp.check(2,
        "paper 1 1 0 1 -> 0", "ofPaper 0 0 -> 0", "ofPaper 0 1 -> 1", "ofPaper 0 2 -> 1", "ofPaper 0 3 -> 1",
        "next -> 1",
        "paper 99999 100 3 99999 -> 1", "ofPaper 1 0 -> 3", "ofPaper 1 1 -> 99999", "ofPaper 1 2 -> 100",
        "ofPaper 1 3 -> 99999", "ofPaper 1 4 -> 1", "ofPaper 1 5 -> 0", "house 4 -> 3",
        "paper 0 1 0 1 -> IAE", "paper 100000 1 0 1 -> IAE", "paper 1 0 0 1 -> IAE", "paper 1 101 0 1 -> IAE",
        "paper 1 1 -1 1 -> IAE", "paper 1 1 4 1 -> IAE", "paper 1 1 0 0 -> IAE", "paper 1 1 0 100000 -> IAE",
        "paper -2147483648 1 0 1 -> IAE", "paper 1 2147483647 0 1 -> IAE",
        "house 1 -> 2", "house 4 -> 3",
        "paper 5 5 1 5 -> 2", "paper 5 5 1 5 -> 3", "paper 5 5 1 5 -> 4", "paper 5 5 1 5 -> 5",
        "paper 5 5 1 5 -> 6", "paper 5 5 1 5 -> 7", "paper 5 5 1 5 -> 8", "paper 5 5 1 5 -> 9",
        "paper 5 5 1 5 -> ISE", "paper 5 5 4 5 -> IAE", "paper 0 5 1 5 -> IAE", "house 1 -> 10",
        "undo -> 7", "house 1 -> 9", "paper 6 6 2 6 -> 9", "ofPaper 9 3 -> 6");
  }

  private static void price() {
    ScriptHelp.check(3,
        "price 0 0 1 -> IOOBE", "paper 1000 100 0 10 -> 0", "price -1 0 0 -> IOOBE", "price 1 9 0 -> IOOBE",
        "price 0 -1 10 -> IAE", "price 0 1 10 -> IAE", "price 0 0 0 -> IAE", "price 0 0 100000 -> IAE",
        "house 4 -> 1", "price 0 0 99999 -> 0", "ofPaper 0 3 -> 99999", "price 0 0 1 -> 0", "house 4 -> 3",
        "next -> 1", "next -> 2", "paper 5 5 0 5 -> 1", "price 1 1 5 -> IAE", "price 1 3 5 -> IAE",
        "price 1 2 6 -> 0", "price 0 1 8 -> 0", "priceOn 0 0 -> 1", "priceOn 0 1 -> 8", "priceOn 0 2 -> 8",
        "undo -> 7", "priceOn 0 1 -> 1", "priceOn 1 2 -> 6", "undo -> 6", "priceOn 1 2 -> 5",
        "merge 1 0 1 1 -> 1005", "price 1 2 7 -> 0", "ofPaper 1 3 -> 7");
  }

  /** A late price reaches weights, all levels behind it and funds. */
  private static void latePrice() {
    ScriptHelp.check(3,
        "paper 1000 100 0 10 -> 0", "paper 1000 100 0 10 -> 1", "index 0 2 0 100 -1 false -> 0",
        "review 0 -> 1", "next -> 1", "level 0 0 -> 1000000", "level 0 1 -> 1000000",
        "price 0 1 20 -> 1", "changed -> 0:1", "level 0 1 -> 1500000", "next -> 2", "next -> 3",
        "price 0 2 10 -> 2", "changed -> 0:2 0:3", "level 0 3 -> 1000000",
        "price 0 0 30 -> 3", "changed -> 0:1 0:2 0:3", "weight 0 0 -> 3/4", "weight 0 1 -> 1/4",
        "level 0 0 -> 1000000", "level 0 1 -> 750000", "level 0 2 -> 500000", "level 0 3 -> 500000",
        "price 0 3 10 -> 0", "changed ->", "undo -> 7", "changed -> 0:1 0:2 0:3",
        "undo -> 6", "changed -> 0:2 0:3", "level 0 1 -> 1500000", "weight 0 0 -> 1/2", "isSound -> true");
    // a late price can take a level away: behind it paper 0 is no member of index 0, and 1 has none
    ScriptHelp.check(3,
        "paper 10 100 0 10 -> 0", "paper 10 100 1 9 -> 1", "index 0 1 0 100 -1 false -> 0",
        "index 0 1 0 100 0 false -> 1", "part 1 0 -> -1", "review 0 -> 1", "review 1 -> 2", "next -> 1",
        "next -> 2", "level 1 2 -> 1000000", "why 1 -> ok", "price 0 0 8 -> 3", "changed -> 1:0 1:1 1:2",
        "level 1 0 -> -", "level 1 2 -> -", "why 1 -> none", "ofIndex 1 9 -> -1", "isSound -> true",
        "undo -> 7", "level 1 2 -> 1000000", "changed ->");
    // two units for 2000 coins at 10; told anew at 20, half as many are held, and a payment is half as much
    ScriptHelp.check(3,
        "paper 1000 100 0 10 -> 0", "index 0 1 0 100 -1 false -> 0", "fund 0 0 0 1 -> 0", "make 0 2 -> 2",
        "review 0 -> 1", "next -> 1", "trade 0 -> 1", "held 0 0 -> 200", "pay 0 3 -> 600", "take 0 1 -> 1",
        "held 0 0 -> 100", "money 0 0 -> 300", "price 0 1 20 -> 1", "held 0 0 -> 50", "money 0 0 -> 150",
        "ofFund 0 4 -> 1", "isSound -> true", "undo -> 7", "held 0 0 -> 100", "money 0 0 -> 300");
  }

  private static void count() {
    ScriptHelp.check(4,
        "count 0 1 -> IOOBE", "paper 1000 50 0 10 -> 0", "paper 1 1 0 1 -> 1", "count 0 1 -> 1000",
        "size 0 -> 500", "count 0 99999 -> 1", "ofPaper 0 1 -> 99999", "count 0 0 -> IAE",
        "count 0 100000 -> IAE", "count 2 0 -> IOOBE", "count -1 5 -> IOOBE", "house 4 -> 4",
        "merge 0 1 1 1 -> 100000", "count 0 5 -> ISE", "count 0 0 -> IAE", "ofPaper 0 1 -> 99999",
        "count 1 5 -> 100000", "undo -> 5", "ofPaper 1 1 -> 100000");
  }

  private static void free() {
    ScriptHelp.check(5,
        "free 0 1 -> IOOBE", "paper 1000 50 0 10 -> 0", "paper 1 1 0 1 -> 1", "free 0 1 -> 50",
        "size 0 -> 10000", "free 0 100 -> 1", "ofPaper 0 2 -> 100", "free 0 0 -> IAE", "free 0 101 -> IAE",
        "free 2 0 -> IOOBE", "free -1 5 -> IOOBE", "house 4 -> 4", "merge 0 1 1 1 -> 1001", "free 0 5 -> ISE",
        "free 0 101 -> IAE", "ofPaper 0 2 -> 100", "free 1 7 -> 1", "undo -> 5", "ofPaper 1 2 -> 1");
  }

  private static void split() {
    ScriptHelp.check(6,
        "split 0 1 1 -> IOOBE", "paper 7 100 0 10 -> 0", "paper 99999 1 0 1 -> 1",
        "split 0 3 2 -> 10", "split 0 1 20 -> 1", "split 0 20 1 -> 20", "split 0 20 20 -> 20",
        "split 1 20 1 -> 1999980", "split 1 20 1 -> 39999600", "split 1 20 1 -> 799992000",
        "split 1 20 1 -> 999999999", "split 1 1 2 -> 499999999",
        "split 0 0 1 -> IAE", "split 0 21 1 -> IAE", "split 0 1 0 -> IAE", "split 0 1 21 -> IAE",
        "split 2 0 1 -> IOOBE", "split -1 1 1 -> IOOBE", "merge 0 1 1 1 -> 500000019",
        "split 0 1 1 -> ISE", "split 0 1 0 -> IAE", "house 4 -> 8");
    ScriptHelp.check(6,
        "paper 1000 100 0 7 -> 0", "index 0 1 0 100 -1 false -> 0", "fund 0 0 0 1 -> 0", "make 0 1 -> 1",
        "review 0 -> 1", "next -> 1", "trade 0 -> 1", "held 0 0 -> 142", "money 0 0 -> 6",
        "split 0 3 4 -> 750", "held 0 0 -> 106", "money 0 0 -> 9", "level 0 1 -> 750000",
        "price 0 1 10 -> 1", "level 0 1 -> 1071429", "next -> 2", "split 0 2 1 -> 1500",
        "held 0 0 -> 150", "level 0 2 -> 2142858");
  }

  private static void pay() {
    ScriptHelp.check(7,
        "pay 0 1 -> IOOBE", "paper 1000 100 0 10 -> 0", "paper 10 100 0 10 -> 1",
        "index 0 1 0 100 -1 true -> 0", "index 0 1 0 100 -1 false -> 1", "tax 0 15 -> 0",
        "fund 0 0 0 1 -> 0", "fund 1 0 0 1 -> 1", "make 0 1 -> 1", "make 1 2 -> 2", "pay 0 5 -> 0",
        "review 0 -> 1", "review 1 -> 2", "next -> 1", "trade 0 -> 1", "trade 1 -> 1",
        // 100 * 1 * 85 / 100 and 200 * 1
        "pay 0 1 -> 285", "money 0 0 -> 85", "money 1 0 -> 200", "level 0 1 -> 1085000", "level 1 1 -> 1000000",
        "tax 0 100 -> 15", "pay 0 3 -> 600", "level 0 1 -> 1085000", "tax 0 99 -> 100",
        // the floor of 100 * 99999 / 100, and 200 * 99999
        "pay 0 99999 -> 20099799", "pay 1 7 -> 0", "next -> 2",
        // 0.85 and 999.99 were put back, over 10; they do not stay
        "level 0 1 -> 101084000", "level 0 2 -> 101084000",
        "pay 0 0 -> IAE", "pay 0 100000 -> IAE", "pay 2 0 -> IOOBE", "pay -1 1 -> IOOBE",
        "merge 1 0 1 1 -> 1010", "pay 1 1 -> ISE", "pay 1 0 -> IAE");
    ScriptHelp.check(7,
        "paper 1000 100 0 1 -> 0", "index 0 1 0 100 -1 true -> 0", "tax 0 33 -> 0", "fund 0 0 0 1 -> 0",
        "fund 0 0 0 3 -> 1", "make 0 1 -> 1", "make 1 1 -> 1", "review 0 -> 1", "next -> 1", "take 0 1 -> 0",
        // the floor of 999 * 67 / 100, fund by fund
        "trade 0 -> 0", "trade 1 -> 1", "pay 0 1 -> 669", "make 0 1 -> 1", "trade 0 -> 1", "pay 0 1 -> 1339");
  }

  private static void rights() {
    ScriptHelp.check(8,
        "rights 0 1 1 1 -> IOOBE", "paper 7 100 0 10 -> 0", "paper 99999 1 0 1 -> 1",
        "rights 0 1 2 3 -> 10", "rights 0 1 20 3 -> 10", "rights 0 20 1 99999 -> 210",
        "rights 1 20 1 1 -> 2099979", "rights 1 20 1 1 -> 44099559", "rights 1 20 1 1 -> 926090739",
        "rights 1 1 1 1 -> 999999999",
        "rights 0 0 1 1 -> IAE", "rights 0 21 1 1 -> IAE", "rights 0 1 0 1 -> IAE", "rights 0 1 21 1 -> IAE",
        "rights 0 1 1 0 -> IAE", "rights 0 1 1 100000 -> IAE", "rights 2 0 0 0 -> IOOBE",
        "rights -1 1 1 1 -> IOOBE", "merge 0 1 1 1 -> 999999999", "rights 0 1 1 1 -> ISE",
        "rights 0 1 1 0 -> IAE", "house 4 -> 8");
    ScriptHelp.check(8,
        "paper 1000 100 0 7 -> 0", "index 0 1 0 100 -1 true -> 0", "fund 0 0 0 1 -> 0", "make 0 1 -> 1",
        "review 0 -> 1", "next -> 1", "trade 0 -> 1", "held 0 0 -> 142", "money 0 0 -> 6",
        // 142 / 4 = 35 new ones for 3 each; the level is 7 * 5 / 4 over 7 and 3 / 4
        "rights 0 1 4 3 -> 1250", "held 0 0 -> 177", "money 0 0 -> -99", "level 0 1 -> 1129032",
        // PAID IN counts for this day alone
        "next -> 2", "level 0 1 -> 1129032", "level 0 2 -> 1129032", "ofIndex 0 11 -> 258");
  }

  private static void spin() {
    ScriptHelp.check(9,
        "spin 0 1 1 1 -> IOOBE", "paper 7 60 2 10 -> 0", "spin 0 3 2 5 -> 1", "ofPaper 1 0 -> 2",
        "ofPaper 1 1 -> 10", "ofPaper 1 2 -> 60", "ofPaper 1 3 -> 5", "ofPaper 1 4 -> 0", "ofPaper 0 1 -> 7",
        "next -> 1", "spin 0 1 20 99999 -> 2", "ofPaper 2 1 -> 1", "ofPaper 2 4 -> 1", "priceOn 2 0 -> -1",
        "spin 0 0 1 1 -> IAE", "spin 0 21 1 1 -> IAE", "spin 0 1 0 1 -> IAE", "spin 0 1 21 1 -> IAE",
        "spin 0 1 1 0 -> IAE", "spin 0 1 1 100000 -> IAE", "spin 3 0 0 0 -> IOOBE", "spin -1 1 1 1 -> IOOBE",
        "merge 1 0 1 1 -> 17", "spin 1 1 1 1 -> ISE", "spin 1 0 1 1 -> IAE", "house 1 -> 3", "house 4 -> 5",
        "spin 0 1 1 1 -> 3", "spin 0 1 1 1 -> 4", "spin 0 1 1 1 -> 5", "spin 0 1 1 1 -> 6",
        "spin 0 1 1 1 -> 7", "spin 0 1 1 1 -> 8", "spin 0 1 1 1 -> 9", "spin 0 1 1 1 -> ISE",
        "spin 0 1 1 0 -> IAE", "undo -> 7", "house 1 -> 9");
    ScriptHelp.check(9,
        "paper 1000 100 0 7 -> 0", "index 0 1 0 100 -1 false -> 0", "fund 0 0 0 1 -> 0", "make 0 1 -> 1",
        "review 0 -> 1", "next -> 1", "trade 0 -> 1", "held 0 0 -> 142", "money 0 0 -> 6",
        // 142 * 3 / 4 = 106 and a half, for which there is 11 / 2
        "spin 0 3 4 11 -> 1", "held 0 0 -> 142", "held 0 1 -> 106", "money 0 0 -> 11",
        // a share and three quarters of the new one, over a share
        "level 0 1 -> 2178571", "part10000 0 0 -> 4590", "part10000 0 1 -> 5409", "weight 0 1 -> 0/1",
        "members 0 -> 0", "next -> 2", "level 0 2 -> 2178571", "report 0 ->  0  45.90; 1  54.09;");
  }

  private static void merge() {
    ScriptHelp.check(10,
        "merge 0 1 1 1 -> IOOBE", "paper 7 60 2 10 -> 0", "merge 0 1 1 1 -> IOOBE", "merge 1 0 1 1 -> IOOBE",
        "merge 0 -1 1 1 -> IOOBE", "merge 1 1 0 0 -> IOOBE", "merge 0 0 1 1 -> IAE", "paper 10 50 1 8 -> 1",
        "merge 0 1 0 1 -> IAE", "merge 0 1 21 1 -> IAE", "merge 0 1 1 0 -> IAE", "merge 0 1 1 21 -> IAE",
        "paper 3 50 1 8 -> 2", "merge 0 1 3 2 -> 20", "ofPaper 0 5 -> 1", "ofPaper 0 1 -> 7",
        "ofPaper 1 5 -> 0", "merge 0 1 1 1 -> ISE", "merge 1 0 1 1 -> ISE", "merge 0 0 1 1 -> IAE",
        "merge 0 1 0 1 -> IAE", "merge 2 1 1 20 -> 20", "house 7 -> 2", "undo -> 4", "house 7 -> 1",
        "undo -> 3", "ofPaper 0 5 -> 0", "ofPaper 1 1 -> 10");
    ScriptHelp.check(10,
        "paper 99999 1 0 1 -> 0", "paper 99999 1 0 1 -> 1", "split 0 20 1 -> 1999980", "split 0 20 1 -> 39999600",
        "split 0 20 1 -> 799992000", "merge 0 1 20 1 -> 999999999");
    ScriptHelp.check(10,
        "paper 1000 100 0 7 -> 0", "paper 1000 100 0 3 -> 1", "index 1 2 0 100 -1 false -> 0",
        "fund 0 0 0 1 -> 0", "make 0 1 -> 1", "review 0 -> 1", "next -> 1", "trade 0 -> 2", "held 0 0 -> 71",
        "held 0 1 -> 166", "money 0 0 -> 5", "price 1 1 5 -> 1",
        // the trade is told anew: 1000 * 1/14 over 4/3, and 1000 * 1/6 over 4/3
        "held 0 0 -> 53", "held 0 1 -> 125", "money 0 0 -> 4", "trade 0 -> 0",
        // 53 * 3 / 4 = 39 and three quarters, for which there is 15 / 4
        "merge 0 1 3 4 -> 1750", "held 0 0 -> 0", "held 0 1 -> 164", "money 0 0 -> 7",
        // 1/14 * 3/4 and 1/6, at 5
        "level 0 1 -> 1101190", "members 0 -> 0 1", "report 0 ->  1 100.00;", "part10000 0 0 -> 0");
  }

  private static void next() {
    String[] all = new String[44];
    for (int day = 0; day < 40; day++) {
      all[day] = "next -> " + (day + 1);
    }
    all[40] = "next -> ISE";
    all[41] = "house 0 -> 40";
    all[42] = "undo -> 7";
    all[43] = "next -> 40";
    ScriptHelp.check(11, all);
    // levels, then fees, then reviews by the numbers of indexes
    ScriptHelp.check(11,
        "paper 100 100 0 10 -> 0", "paper 90 100 0 10 -> 1", "index 0 1 0 100 -1 false -> 0",
        "index 0 1 0 100 -1 false -> 1", "part 1 0 -> -1", "review 1 -> 1", "review 0 -> 2", "next -> 1",
        "why 0 -> ok", "why 1 -> ok", "members 1 -> 0", "house 5 -> 0", "level 0 0 -> 1000000",
        "price 0 1 8 -> 2", "review 0 -> 1", "level 0 1 -> 800000", "next -> 2", "members 0 -> 1",
        "members 1 -> 0", "level 0 1 -> 800000", "price 1 2 15 -> 1", "level 0 2 -> 1200000",
        "level 1 2 -> 800000");
  }

  private static void ofPaper() {
    ScriptHelp.check(21,
        "ofPaper 0 0 -> IOOBE", "next -> 1", "paper 5 6 3 8 -> 0", "ofPaper 0 0 -> 3", "ofPaper 0 1 -> 5",
        "ofPaper 0 2 -> 6", "ofPaper 0 3 -> 8", "ofPaper 0 4 -> 1", "ofPaper 0 5 -> 0", "ofPaper 0 6 -> 0",
        "ofPaper 0 -1 -> IAE", "ofPaper 0 7 -> IAE", "ofPaper 1 7 -> IOOBE", "ofPaper -1 0 -> IOOBE",
        "index 0 1 0 100 -1 false -> 0", "index 0 1 0 100 3 false -> 1", "index 0 1 0 100 2 false -> 2",
        "review 0 -> 1", "review 1 -> 2", "review 2 -> 3", "ofPaper 0 6 -> 0", "next -> 2", "ofPaper 0 6 -> 2",
        "price 0 2 9 -> 2", "ofPaper 0 3 -> 9", "paper 5 6 3 8 -> 1", "merge 0 1 1 1 -> 10", "ofPaper 0 5 -> 1",
        "ofPaper 0 6 -> 2", "house 4 -> 8");
  }

  private static void priceOn() {
    ScriptHelp.check(22,
        "priceOn 0 0 -> IOOBE", "next -> 1", "paper 5 6 3 8 -> 0", "next -> 2", "next -> 3", "price 0 3 9 -> 0",
        "priceOn 0 0 -> -1", "priceOn 0 1 -> 8", "priceOn 0 2 -> 8", "priceOn 0 3 -> 9", "priceOn 0 4 -> IAE",
        "priceOn 0 -1 -> IAE", "priceOn 1 -1 -> IOOBE", "priceOn -1 0 -> IOOBE", "price 0 2 99999 -> 0",
        "priceOn 0 1 -> 8", "priceOn 0 2 -> 99999", "priceOn 0 3 -> 9", "next -> 4", "priceOn 0 4 -> 9");
  }

  private static void size() {
    ScriptHelp.check(23,
        "size 0 -> IOOBE", "paper 1 1 0 1 -> 0", "size 0 -> 1", "size 1 -> IOOBE", "size -1 -> IOOBE",
        "paper 99999 100 0 99999 -> 1", "size 1 -> 999980000100", "split 1 20 1 -> 1999980",
        "split 1 20 1 -> 39999600", "split 1 20 1 -> 799992000", "split 1 20 1 -> 999999999",
        "size 1 -> 9999899990000100", "next -> 1", "price 1 1 2 -> 0", "size 1 -> 199999999800",
        "merge 1 0 1 1 -> 999999999", "size 1 -> 199999999800", "size 0 -> 999999999");
  }

  private static void votes() {
    ScriptHelp.check(24,
        "votes 0 true -> IOOBE", "paper 1000 100 0 10 -> 0", "paper 1 100 0 1 -> 1", "votes 0 true -> 0",
        "index 0 1 0 100 -1 false -> 0", "fund 0 0 0 1 -> 0", "fund 0 0 0 1 -> 1", "make 0 1 -> 1",
        "make 1 2 -> 2", "review 0 -> 1", "next -> 1", "trade 0 -> 1", "trade 1 -> 1",
        "votes 0 true -> 300", "votes 0 false -> 300", "lend 0 0 33 -> 0", "lend 1 0 100 -> 0",
        "votes 0 true -> 67", "votes 0 false -> 300", "split 0 1 8 -> 125",
        // 12 and 25 are held; 3 (of 3.96) and 25 are lent
        "votes 0 true -> 9", "votes 0 false -> 37", "votes 1 true -> 0", "votes 2 true -> IOOBE",
        "votes -1 false -> IOOBE");
  }

  private static void rank() {
    ScriptHelp.check(25,
        "paper 10 100 0 10 -> 0", "rank 0 0 -> IOOBE", "index 0 2 0 100 -1 false -> 0", "rank 0 1 -> IOOBE",
        "rank -1 0 -> IOOBE", "rank 0 -1 -> IOOBE", "rank 0 0 -> 1", "paper 10 100 1 10 -> 1",
        "paper 11 100 1 10 -> 2", "rank 0 0 -> 2", "rank 0 1 -> 3", "rank 0 2 -> 1",
        "index 0 2 0 100 1 false -> 1", "rank 1 0 -> -1", "rank 1 1 -> 2", "rank 1 2 -> 1",
        "index 0 2 0 100 -1 false -> 2", "part 2 0 -> -1", "rank 2 2 -> -1", "review 0 -> 1", "next -> 1",
        "rank 2 0 -> 2", "rank 2 1 -> -1", "rank 2 2 -> 1", "price 2 1 9 -> 1", "rank 0 2 -> 3",
        "merge 0 1 1 1 -> 20", "rank 0 0 -> -1", "rank 0 1 -> 1", "rank 2 0 -> -1", "rank 2 2 -> 1",
        "part 2 -1 -> 0", "rank 2 1 -> 1");
  }
}
