/** Promises 12 to 15 and 26 to 36: indexes, their reviews, weights and levels, and what is asked of them. */
public final class IndexesTest {
  private IndexesTest() {
  }

  public static void main(String[] args) {
    index();
    tax();
    part();
    review();
    ofIndex();
    level();
    rounding();
    members();
    why();
    weight();
    isCut();
    part10000();
    common();
    growth();
    report();
    changed();
    ScriptHelp.close("indexes");
  }

  private static void index() {
    ScriptHelp.check(12,
        "index 0 1 0 10 -1 false -> 0", "index 3 8 3 100 3 true -> 1",
        "ofIndex 0 0 -> 0", "ofIndex 0 1 -> 1", "ofIndex 0 2 -> 0", "ofIndex 0 3 -> 10", "ofIndex 0 4 -> -1",
        "ofIndex 0 5 -> 0", "ofIndex 1 0 -> 3", "ofIndex 1 1 -> 8", "ofIndex 1 2 -> 3", "ofIndex 1 3 -> 100",
        "ofIndex 1 4 -> 3", "ofIndex 1 5 -> 1", "ofIndex 1 6 -> 0", "ofIndex 1 7 -> -1", "ofIndex 1 8 -> 0",
        "ofIndex 1 9 -> -1", "ofIndex 1 10 -> 0", "ofIndex 1 11 -> 0", "level 1 0 -> -", "why 1 -> -",
        "index -1 1 0 10 -1 false -> IAE", "index 4 1 0 10 -1 false -> IAE", "index 0 0 0 10 -1 false -> IAE",
        "index 0 9 0 10 -1 false -> IAE", "index 0 1 -1 10 -1 false -> IAE", "index 0 1 4 10 -1 false -> IAE",
        "index 0 1 0 9 -1 false -> IAE", "index 0 1 0 101 -1 false -> IAE", "index 0 1 0 10 -2 false -> IAE",
        "index 0 1 0 10 4 false -> IAE", "house 2 -> 2", "house 4 -> 2", "index 1 1 0 10 0 false -> 2",
        "index 2 1 0 10 1 false -> 3", "index 0 1 0 10 -1 false -> ISE", "index 4 1 0 10 -1 false -> IAE",
        "house 2 -> 4", "undo -> 3", "index 0 2 0 10 -1 false -> 3", "ofIndex 3 1 -> 2");
  }

  private static void tax() {
    ScriptHelp.check(13,
        "tax 0 0 -> IOOBE", "index 0 1 0 10 -1 true -> 0", "tax 0 100 -> 0", "tax 0 7 -> 100", "ofIndex 0 6 -> 7",
        "tax 0 -1 -> IAE", "tax 0 101 -> IAE", "tax 1 -1 -> IOOBE", "tax -1 5 -> IOOBE", "house 4 -> 3",
        "undo -> 2", "ofIndex 0 6 -> 100", "tax 0 100 -> 100", "house 4 -> 3",
        // a tax counts for what is paid behind it
        "tax 0 20 -> 100", "paper 1 100 0 10 -> 0", "review 0 -> 1", "next -> 1", "pay 0 5 -> 0",
        "level 0 1 -> 1400000", "tax 0 100 -> 20", "level 0 1 -> 1400000", "pay 0 5 -> 0", "level 0 1 -> 1400000");
  }

  private static void part() {
    ScriptHelp.check(14,
        "part 0 -1 -> IOOBE", "index 0 1 0 10 -1 true -> 0", "part 0 0 -> IAE", "part 0 -2 -> IAE",
        "part 0 -1 -> -1", "index 0 8 0 10 -1 true -> 1", "index 0 8 0 10 -1 true -> 2", "part 1 1 -> IAE",
        "part 1 2 -> IAE", "part 2 1 -> -1", "ofIndex 2 7 -> 1", "part 2 0 -> 1", "part 2 -1 -> 0",
        "ofIndex 2 7 -> -1", "part 3 5 -> IOOBE", "part -1 -1 -> IOOBE", "house 4 -> 7",
        "part 1 0 -> -1", "paper 1 1 0 1 -> 0", "paper 2 1 0 1 -> 1", "review 1 -> 1", "next -> 1",
        "why 1 -> none", "review 0 -> 1", "next -> 2", "review 1 -> 1", "next -> 3", "members 1 -> 1",
        "part 1 -1 -> 0", "review 1 -> 1", "next -> 4", "members 1 -> 0 1");
  }

  private static void review() {
    ScriptHelp.check(15,
        "review 0 -> IOOBE", "index 0 1 0 10 -1 true -> 0", "index 0 1 0 10 -1 true -> 1", "review 1 -> 1",
        "review 1 -> 1", "ofIndex 1 10 -> 1", "ofIndex 0 10 -> 0", "house 4 -> 4", "review 0 -> 2", "house 5 -> 2",
        "review 2 -> IOOBE", "review -1 -> IOOBE", "undo -> 4", "house 5 -> 1", "undo -> 3", "house 5 -> 1",
        "undo -> 2", "house 5 -> 0", "review 0 -> 1", "next -> 1", "house 5 -> 0", "ofIndex 0 10 -> 0",
        "why 0 -> none", "why 1 -> -",
        // due once, done once
        "paper 1 1 0 1 -> 0", "next -> 2", "why 0 -> none", "undo -> 5", "review 0 -> 1", "next -> 2",
        "why 0 -> ok");
  }

  private static void ofIndex() {
    ScriptHelp.check(26,
        "ofIndex 0 0 -> IOOBE", "paper 3 100 2 3 -> 0", "paper 1 100 2 3 -> 1", "paper 1 100 0 3 -> 2",
        "index 1 5 2 40 2 true -> 0", "tax 0 9 -> 0", "next -> 1", "review 0 -> 1", "ofIndex 0 9 -> -1",
        "next -> 2", "ofIndex 0 0 -> 1", "ofIndex 0 1 -> 5", "ofIndex 0 2 -> 2", "ofIndex 0 3 -> 40",
        "ofIndex 0 4 -> 2", "ofIndex 0 5 -> 1", "ofIndex 0 6 -> 9", "ofIndex 0 7 -> -1", "ofIndex 0 8 -> 2",
        "ofIndex 0 9 -> 1", "ofIndex 0 10 -> 0", "ofIndex 0 11 -> 0", "ofIndex 0 12 -> IAE",
        "ofIndex 0 -1 -> IAE", "ofIndex 1 12 -> IOOBE", "ofIndex -1 0 -> IOOBE",
        // today counts for DRIFT when it has ended: 2/3 and 1/3, a day each
        "price 0 2 1 -> 1", "level 0 2 -> 666667", "ofIndex 0 11 -> 0", "next -> 3", "ofIndex 0 11 -> -334",
        "price 1 3 1 -> 1", "level 0 3 -> 333334", "next -> 4", "ofIndex 0 11 -> -834");
  }

  private static void level() {
    ScriptHelp.check(27,
        "level 0 0 -> IOOBE", "paper 10 100 0 10 -> 0", "paper 9 100 0 10 -> 1", "index 0 1 0 100 -1 false -> 0",
        "next -> 1", "review 0 -> 1", "level 0 1 -> -", "next -> 2", "level 0 0 -> -", "level 0 1 -> 1000000",
        "level 0 2 -> 1000000", "level 0 3 -> IAE", "level 0 -1 -> IAE", "level 1 9 -> IOOBE",
        "level -1 0 -> IOOBE", "price 0 2 5 -> 1", "level 0 2 -> 500000", "price 0 2 8 -> 1",
        // the old basket counts for the day, the new one from the next day on
        "review 0 -> 1", "next -> 3", "members 0 -> 1", "level 0 2 -> 800000", "level 0 3 -> 800000",
        "price 0 3 99 -> 0", "price 1 3 25 -> 1", "level 0 3 -> 2000000", "next -> 4", "level 0 4 -> 2000000",
        // what is paid in and put back counts from the day that goes before it
        "rights 1 1 1 25 -> 18", "level 0 4 -> 2000000", "rights 1 1 2 1 -> 27", "price 1 4 13 -> 1",
        // 3 * 13 over 25, 25 and 1
        "level 0 4 -> 1529412");
    // a REVIEW that is "none" or "cap" leaves the basket in force
    ScriptHelp.check(27,
        "paper 10 100 1 10 -> 0", "index 2 4 0 50 1 false -> 0", "paper 10 100 1 10 -> 1", "review 0 -> 1",
        "next -> 1", "members 0 -> 0 1", "merge 1 0 1 1 -> 20", "review 0 -> 1", "next -> 2", "why 0 -> cap",
        "members 0 -> 0 1", "level 0 2 -> 1000000", "price 0 2 20 -> 1", "level 0 2 -> 2000000",
        "report 0 ->  0 100.00;");
  }

  private static void rounding() {
    ScriptHelp.check(27,
        "paper 10 100 0 128 -> 0", "index 1 1 0 100 -1 false -> 0", "review 0 -> 1", "next -> 1",
        "price 0 1 1 -> 1", "level 0 1 -> 7813", "next -> 2", "ofIndex 0 11 -> -500",
        "price 0 1 3 -> 2", "level 0 1 -> 23438", "ofIndex 0 11 -> -500", "price 0 2 1 -> 1",
        // 23438 / 3 = 7812.67
        "level 0 2 -> 7813", "next -> 3", "ofIndex 0 11 -> -834", "price 0 2 4 -> 2", "level 0 2 -> 31251",
        // 23438 * 4 / 3 = 31250.67, then 31251 * 3 / 4 = 23438.25
        "price 0 3 3 -> 1", "level 0 3 -> 23438", "next -> 4", "ofIndex 0 11 -> -584");
    // a level can become 0, and stays 0
    ScriptHelp.check(27,
        "paper 10 100 0 99999 -> 0", "index 1 1 0 100 -1 false -> 0", "review 0 -> 1", "next -> 1",
        "price 0 1 1 -> 1", "level 0 1 -> 10", "next -> 2", "split 0 1 20 -> 1", "level 0 2 -> 1", "next -> 3",
        "split 0 1 20 -> 1", "level 0 3 -> 0", "next -> 4", "price 0 4 99999 -> 0", "level 0 4 -> 0",
        "growth 0 3 4 -> -", "growth 0 4 3 -> -", "growth 0 2 3 -> 0/1", "growth 0 1 2 -> 1/10",
        "isSound -> true");
  }

  private static void members() {
    ScriptHelp.check(28,
        "members 0 -> IOOBE", "paper 60 100 0 1 -> 0", "paper 50 100 0 1 -> 1", "paper 40 100 0 1 -> 2",
        "paper 30 100 1 1 -> 3", "paper 20 100 0 1 -> 4", "paper 10 100 0 1 -> 5",
        "index 0 3 1 100 -1 false -> 0", "index 0 2 3 100 -1 false -> 1", "index 0 4 0 100 0 false -> 2",
        "members 0 ->", "members -1 -> IOOBE", "members 3 -> IOOBE", "review 0 -> 1", "review 1 -> 2",
        "review 2 -> 3", "members 0 ->", "next -> 1", "members 0 -> 0 1 2", "members 1 -> 0 1",
        "members 2 -> 0 1 2 4",
        // by ranks now: 0 1 3 2 4 5; 2 has the rank WANTED + BUFFER
        "count 3 45 -> 30", "review 0 -> 1", "next -> 2", "members 0 -> 0 1 2",
        // by ranks: 0 1 3 4 2 5; 2 is behind that
        "count 2 15 -> 40", "review 0 -> 1", "next -> 3", "members 0 -> 0 1 3",
        // by ranks: 3 2 4 0 5 1; index 1 takes none for its rank alone, and keeps 0 (4), then 2 is no longer wanted
        "count 3 99 -> 45", "count 2 98 -> 15", "count 4 97 -> 20", "count 1 1 -> 50", "review 1 -> 1",
        "next -> 4", "members 1 -> 0 3",
        // 0 goes to the rank 5, and 3 stays
        "count 5 61 -> 10", "review 1 -> 1", "next -> 5", "members 1 -> 0 3", "count 1 62 -> 1", "review 1 -> 1",
        "next -> 6", "rank 1 0 -> 6", "members 1 -> 2 3",
        // alike ones by their numbers
        "count 5 62 -> 61", "count 0 62 -> 60", "rank 0 0 -> 4", "rank 0 1 -> 5", "rank 0 5 -> 6");
  }

  private static void why() {
    ScriptHelp.check(29,
        "why 0 -> IOOBE", "index 2 4 0 24 -1 false -> 0", "why 0 -> -", "why 1 -> IOOBE", "why -1 -> IOOBE",
        "review 0 -> 1", "why 0 -> -", "next -> 1", "why 0 -> none", "paper 4 100 0 1 -> 0",
        "paper 3 100 0 1 -> 1", "paper 2 100 0 1 -> 2", "paper 1 100 0 1 -> 3", "review 0 -> 1", "next -> 2",
        "why 0 -> cap", "members 0 ->", "level 0 1 -> -", "level 0 2 -> -", "ofIndex 0 9 -> -1",
        "index 2 4 0 25 -1 false -> 1", "review 1 -> 1", "next -> 3", "why 1 -> ok", "why 0 -> cap",
        "index 1 4 0 10 -1 false -> 2", "review 2 -> 1", "next -> 4", "why 2 -> ok", "next -> 5", "why 2 -> ok",
        "merge 0 1 1 1 -> 7", "review 1 -> 1", "next -> 6", "why 1 -> cap", "members 1 -> 0 1 2 3",
        "weight 1 0 -> 1/4", "undo -> 7", "why 1 -> ok");
    ScriptHelp.check(29,
        "paper 4 100 0 1 -> 0", "paper 3 100 0 1 -> 1", "paper 2 100 0 1 -> 2", "index 2 3 0 33 -1 false -> 0",
        "index 2 3 0 34 -1 false -> 1", "review 0 -> 1", "review 1 -> 2", "next -> 1", "why 0 -> cap",
        "why 1 -> ok");
  }

  private static void weight() {
    ScriptHelp.check(30,
        "weight 0 0 -> IOOBE", "paper 50 100 0 1 -> 0", "index 0 4 0 30 -1 false -> 0", "weight 0 1 -> IOOBE",
        "weight 0 -1 -> IOOBE", "weight -1 0 -> IOOBE", "weight 1 0 -> IOOBE", "weight 0 0 -> 0/1",
        "paper 10 100 0 3 -> 1", "paper 5 50 1 6 -> 2", "paper 1 100 3 5 -> 3", "paper 1 1 1 1 -> 4",
        "index 1 4 0 30 -1 false -> 1", "index 2 4 0 30 -1 false -> 2", "index 3 4 0 30 -1 false -> 3",
        "review 0 -> 1", "review 1 -> 2", "review 2 -> 3", "review 3 -> 4", "next -> 1",
        "weight 0 0 -> 1/2", "weight 0 1 -> 3/10", "weight 0 2 -> 3/20", "weight 0 3 -> 1/20", "weight 0 4 -> 0/1",
        "weight 1 0 -> 1/4", "weight 1 1 -> 1/4", "weight 1 2 -> 1/4", "weight 1 3 -> 1/4", "weight 1 4 -> 0/1",
        // 50 is cut, then 30 of 70 among 50, then 15 of 40 among 20 is just 30
        "weight 2 0 -> 3/10", "weight 2 1 -> 3/10", "weight 2 2 -> 3/10", "weight 2 3 -> 1/10",
        "weight 3 0 -> 5/24", "weight 3 1 -> 1/8", "weight 3 2 -> 1/3", "weight 3 3 -> 1/3",
        // weights stay as they were at the review, but a late price tells it anew
        "price 0 1 9 -> 4", "weight 0 0 -> 1/2", "price 0 0 2 -> 4", "weight 0 0 -> 2/3", "weight 0 3 -> 1/30",
        // the basket is weights over prices of the review: alike ones at 2, 3, 6 and 5
        "level 1 0 -> 1000000", "price 2 1 12 -> 4", "level 1 1 -> 2125000");
  }

  private static void isCut() {
    ScriptHelp.check(31,
        "isCut 0 0 -> IOOBE", "paper 50 100 0 1 -> 0", "index 2 4 0 30 -1 false -> 0", "isCut 0 1 -> IOOBE",
        "isCut 0 -1 -> IOOBE", "isCut -1 0 -> IOOBE", "isCut 1 0 -> IOOBE", "isCut 0 0 -> 0",
        "paper 30 100 0 1 -> 1", "paper 15 100 1 1 -> 2", "paper 5 100 3 1 -> 3",
        "index 2 4 0 25 -1 false -> 1", "index 2 4 0 50 -1 false -> 2", "index 0 4 0 10 -1 false -> 3",
        "review 0 -> 1", "review 1 -> 2", "review 2 -> 3", "review 3 -> 4", "next -> 1",
        "isCut 0 0 -> 1", "isCut 0 1 -> 1", "isCut 0 2 -> 0", "isCut 0 3 -> 0",
        "isCut 1 0 -> 1", "isCut 1 1 -> 1", "isCut 1 2 -> 1", "isCut 1 3 -> 0", "weight 1 3 -> 1/4",
        "isCut 2 0 -> 0", "weight 2 0 -> 1/2", "isCut 3 0 -> 0",
        "count 0 10 -> 50", "review 0 -> 1", "isCut 0 0 -> 1", "next -> 2", "isCut 0 0 -> 0", "isCut 0 1 -> 1",
        "weight 0 0 -> 4/15", "isSound -> true");
  }

  private static void part10000() {
    ScriptHelp.check(32,
        "part10000 0 0 -> IOOBE", "paper 10 100 0 10 -> 0", "paper 20 100 0 10 -> 1", "paper 1 100 0 10 -> 2",
        "index 0 2 0 100 -1 false -> 0", "part10000 0 3 -> IOOBE", "part10000 0 -1 -> IOOBE",
        "part10000 -1 0 -> IOOBE", "part10000 1 0 -> IOOBE", "part10000 0 0 -> 0", "review 0 -> 1", "next -> 1",
        "part10000 0 0 -> 3333", "part10000 0 1 -> 6666", "part10000 0 2 -> 0", "price 0 1 20 -> 1",
        "part10000 0 0 -> 5000", "split 1 3 1 -> 60", "part10000 0 0 -> 2500", "part10000 0 1 -> 7500",
        "merge 0 1 1 1 -> 70", "part10000 0 0 -> 0", "part10000 0 1 -> 10000");
  }

  private static void common() {
    ScriptHelp.check(33,
        "common 0 0 -> IOOBE", "index 0 2 0 100 -1 false -> 0", "common 0 0 -> 0", "common 0 1 -> IOOBE",
        "common 1 0 -> IOOBE", "common -1 0 -> IOOBE", "common 0 -1 -> IOOBE", "index 0 4 0 100 1 false -> 1",
        "paper 3 100 0 10 -> 0", "paper 2 100 1 10 -> 1", "paper 1 100 1 10 -> 2", "common 0 1 -> 0",
        "review 0 -> 1", "next -> 1", "common 0 1 -> 0", "review 1 -> 1", "next -> 2", "common 0 1 -> 1",
        "common 1 0 -> 1", "common 0 0 -> 2", "common 1 1 -> 2");
  }

  private static void growth() {
    ScriptHelp.check(34,
        "growth 0 0 0 -> IOOBE", "paper 3 100 0 10 -> 0", "index 0 2 0 100 -1 false -> 0", "growth 0 0 0 -> -",
        "next -> 1", "review 0 -> 1", "next -> 2", "next -> 3", "price 0 3 6 -> 1", "growth 0 0 3 -> -",
        "growth 0 3 0 -> -", "growth 0 1 3 -> 3/5", "growth 0 3 1 -> 5/3", "growth 0 3 3 -> 1/1",
        "growth 0 4 1 -> IAE", "growth 0 1 4 -> IAE", "growth 0 -1 1 -> IAE", "growth 0 1 -1 -> IAE",
        "growth 1 9 9 -> IOOBE", "growth -1 0 0 -> IOOBE", "price 0 3 7 -> 1", "growth 0 2 3 -> 7/10");
  }

  private static void report() {
    ScriptHelp.check(35,
        "report 0 -> IOOBE", "paper 10 100 0 10 -> 0", "index 0 2 0 100 -1 false -> 0", "report 0 ->",
        "report 1 -> IOOBE", "report -1 -> IOOBE", "review 0 -> 1", "report 0 ->", "next -> 1",
        "report 0 ->  0 100.00;", "paper 1 100 0 1 -> 1", "paper 20 100 0 10 -> 2", "paper 1 100 0 1 -> 3",
        "review 0 -> 1", "next -> 2", "report 0 ->  0  33.33; 2  66.66;", "price 2 2 99999 -> 1",
        "report 0 ->  0   0.00; 2  99.99;", "price 2 2 10 -> 1", "price 0 2 1 -> 1",
        "report 0 ->  0   4.76; 2  95.23;", "price 0 2 2 -> 1", "report 0 ->  0   9.09; 2  90.90;",
        "spin 0 1 2 4 -> 4", "report 0 ->  0   8.33; 2  83.33; 4   8.33;");
  }

  private static void changed() {
    ScriptHelp.check(36,
        "changed ->", "paper 10 100 0 10 -> 0", "paper 10 100 0 10 -> 1", "changed ->",
        "index 0 1 0 100 -1 false -> 0", "index 0 2 0 100 -1 false -> 1", "review 0 -> 1", "next -> 1",
        "review 1 -> 1", "next -> 2", "next -> 3", "price 0 2 20 -> 4", "changed -> 0:2 0:3 1:2 1:3",
        "level 0 2 -> 2000000", "level 1 2 -> 1500000", "knock -> 1", "pay 0 1 -> 0", "changed -> 0:2 0:3 1:2 1:3",
        "price 1 3 5 -> 1", "changed -> 1:3", "price 1 3 5 -> 0", "changed ->", "undo -> 7", "changed -> 1:3",
        "undo -> 6", "changed -> 0:2 0:3 1:2 1:3", "undo -> 5", "undo -> 4", "changed ->");
  }
}
