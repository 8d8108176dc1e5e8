/** Promises 45 to 49: steps back, the house, knocks, soundness and the checksum. */
public final class HouseTest {
  private HouseTest() {
  }

  public static void main(String[] args) {
    undo();
    undoEach();
    house();
    knock();
    isSound();
    digest();
    ScriptHelp.close("house");
  }

  private static void undo() {
    ScriptHelp.check(45,
        "undo -> ISE", "paper 1 1 0 1 -> 0", "undo -> 0", "house 1 -> 0", "undo -> ISE", "house 4 -> 0",
        "paper 1 1 0 1 -> 0", "paper 2 1 0 1 -> 1", "paper 3 1 0 1 -> 2", "paper 4 1 0 1 -> 3",
        "paper 5 1 0 1 -> 4", "paper 6 1 0 1 -> 5", "paper 7 1 0 1 -> 6", "paper 8 1 0 1 -> 7", "house 4 -> 8",
        "paper 9 1 0 1 -> 8", "paper 10 1 0 1 -> 9", "house 4 -> 8",
        "undo -> 7", "undo -> 6", "house 1 -> 8", "paper 11 1 0 1 -> 8", "house 4 -> 7", "undo -> 6", "undo -> 5",
        "undo -> 4", "undo -> 3", "undo -> 2", "undo -> 1", "undo -> 0", "house 1 -> 2", "undo -> ISE",
        "house 1 -> 2", "ofPaper 1 1 -> 2", "next -> 1", "undo -> 0", "house 0 -> 0", "undo -> ISE");
    // changes by which nothing is other can be taken back, too; calls that fail are no changes
    ScriptHelp.check(45,
        "paper 5 1 0 1 -> 0", "count 0 5 -> 5", "free 0 1 -> 1", "price 0 0 1 -> 0", "split 0 1 1 -> 5",
        "pay 0 1 -> 0", "house 4 -> 6", "count 0 0 -> IAE", "knock -> 1", "make 0 1 -> IOOBE", "house 4 -> 6",
        "undo -> 5", "undo -> 4", "undo -> 3", "undo -> 2", "undo -> 1", "undo -> 0", "house 1 -> 0",
        "house 6 -> 1");
    // the prices of a paper that is taken back are told no more, neither ahead of another nor behind it
    ScriptHelp.check(45,
        "paper 5 1 0 77 -> 0", "undo -> 0", "next -> 1", "paper 6 1 0 8 -> 0", "priceOn 0 0 -> -1", "undo -> 1",
        "undo -> 0", "paper 6 1 0 8 -> 0", "next -> 1", "spin 0 1 1 66 -> 1", "price 1 1 65 -> 0", "undo -> 3",
        "undo -> 2", "undo -> 1", "spin 0 1 1 9 -> 1", "next -> 1", "ofPaper 1 3 -> 9", "ofPaper 0 3 -> 8");
  }

  /** A rich start, so that each change changes something. */
  private static Indexkeeper start() {
    Indexkeeper x = new Indexkeeper();
    x.paper(1000, 50, 0, 10);
    x.paper(500, 100, 1, 30);
    x.paper(70, 100, 1, 20);
    x.index(0, 2, 1, 60, -1, true);
    x.index(2, 2, 0, 60, -1, false);
    x.tax(0, 10);
    x.part(1, 0);
    x.fund(0, 300, 0, 3);
    x.fund(1, 0, 1, 1);
    x.make(0, 50);
    x.make(1, 20);
    x.review(0);
    x.review(1);
    x.next();
    x.trade(0);
    x.trade(1);
    x.next();
    x.price(0, 2, 11);
    x.undo();
    x.undo();
    x.undo();
    x.undo();
    return x;
  }

  /** Each change is taken back: all answers, but how many changes can be, are as if it had not been. */
  private static void undoEach() {
    Object[][] changes = {
      {"paper", 9, 9, 2, 9}, {"price", 0, 1, 77}, {"price", 1, 0, 2}, {"count", 0, 7}, {"free", 1, 3},
      {"split", 0, 3, 7}, {"pay", 0, 13}, {"rights", 1, 2, 3, 5}, {"spin", 0, 3, 7, 8}, {"merge", 0, 1, 3, 7},
      {"next"}, {"index", 3, 2, 0, 50, 1, true}, {"tax", 0, 55}, {"part", 1, -1}, {"review", 0},
      {"fund", 0, 9, 0, 1}, {"make", 0, 3}, {"take", 1, 3}, {"trade", 0}, {"lend", 0, 0, 50},
    };
    for (Object[] change : changes) {
      Indexkeeper one = start();
      Indexkeeper two = start();
      String name = (String) change[0];
      Object[] with = java.util.Arrays.copyOfRange(change, 1, change.length);
      CallHelp.ask(one, "trade", 1);
      CallHelp.ask(two, "trade", 1);
      int steps = one.house(4);
      String first = CallHelp.ask(one, name, with);
      ScriptHelp.due(45, "steps behind " + name, one.house(4), steps + 1);
      ScriptHelp.due(45, "undo behind " + name, one.undo(), steps);
      ScriptHelp.due(45, "digest behind undo of " + name, one.digest(), two.digest());
      ScriptHelp.due(45, name + " again", CallHelp.ask(one, name, with), first);
      CallHelp.ask(two, name, with);
      ScriptHelp.due(45, "digest behind " + name + " again", one.digest(), two.digest());
    }
  }

  private static void house() {
    ScriptHelp.check(46,
        "house -1 -> IAE", "house 8 -> IAE", "house 2147483647 -> IAE", "paper 1 1 0 1 -> 0", "paper 1 1 0 1 -> 1",
        "paper 1 1 0 1 -> 2", "index 0 1 0 10 -1 true -> 0", "index 0 1 0 10 -1 true -> 1",
        "index 0 1 0 10 -1 true -> 2", "index 0 1 0 10 -1 true -> 3", "fund 0 0 0 1 -> 0", "house 4 -> 8",
        "next -> 1", "next -> 2", "review 3 -> 1", "review 1 -> 2", "merge 0 1 1 1 -> 2", "knock -> 1",
        "knock -> 2", "knock -> 3", "house 0 -> 2", "house 1 -> 3", "house 2 -> 4", "house 3 -> 1",
        "house 4 -> 8", "house 5 -> 2", "house 6 -> 3", "house 7 -> 1");
  }

  private static void knock() {
    ScriptHelp.check(47,
        "knock -> 1", "knock -> 2", "house 4 -> 0", "undo -> ISE", "next -> 1", "knock -> 3", "undo -> 0",
        "house 6 -> 3", "knock -> 4");
  }

  private static void isSound() {
    ScriptHelp.check(48,
        "isSound -> true", "paper 10 100 0 7 -> 0", "paper 20 100 0 5 -> 1", "paper 30 100 1 3 -> 2",
        "index 2 3 0 34 -1 true -> 0", "index 3 3 0 34 -1 true -> 1", "fund 0 999 0 1 -> 0", "make 0 9 -> 9",
        "isSound -> true", "review 0 -> 1", "review 1 -> 2", "next -> 1", "trade 0 -> 3", "isSound -> true",
        "rights 0 3 7 9 -> 14", "pay 1 3 -> 1833", "next -> 2", "price 1 0 8 -> 4", "isSound -> true",
        "merge 2 0 5 3 -> 64", "take 0 4 -> 5", "isSound -> true", "undo -> 7", "undo -> 6", "isSound -> true");
  }

  /** Each stage is a keeper of its own, for what is asked of it takes many calls. */
  private static Indexkeeper stage(int n) {
    Indexkeeper x = n == 0 ? new Indexkeeper() : start();
    if (n > 1) {
      x.trade(0);
      x.trade(1);
      x.lend(0, 0, 30);
      x.lend(1, 1, 99);
    }
    if (n > 2) {
      x.pay(1, 3);
      x.merge(0, 1, 2, 3);
      x.next();
      x.price(1, 1, 45);
      x.review(0);
      x.knock();
    }
    return x;
  }

  private static void digest() {
    for (int n = 0; n < 4; n++) {
      Indexkeeper x = stage(n);
      ScriptHelp.due(49, "digest of stage " + n, x.digest(), DigestHelp.whole(stage(n)).longValue());
      ScriptHelp.due(49, "digest again", x.digest(), DigestHelp.whole(x).longValue());
    }
  }
}
