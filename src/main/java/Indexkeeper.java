import java.util.Arrays;

/**
 * A keeper of indexes and of the funds that follow them.
 *
 * <p>Every change is kept as a row of numbers (a deed). A book is what comes of the deeds, done one
 * behind the other with the prices as they are told now; so a late price or a step back is the same
 * deeds done anew in the other book.
 */
public final class Indexkeeper {
  private static final int NONE = -1;
  private static final int REFUSED = -9;

  private static final int PAPERS = 10;
  private static final int INDEXES = 4;
  private static final int FUNDS = 3;
  private static final int KINDS = 4;
  private static final int LAST_DAY = 40;
  private static final int DAYS = LAST_DAY + 1;
  private static final int MOST_UNITS = 99999;
  private static final int FIRST_LEVEL = 1000000;
  private static final int YEAR = 3650000;

  /** An object answers 512 calls, so there are never more deeds. */
  private static final int DEEDS = 512;
  /** The deed and six numbers; of a told price the last one is what it took the place of. */
  private static final int ROW = 7;
  private static final int STEPS_BACK = 8;

  /** Limbs of nine digits: 512 calls make a level or a part of a basket no longer than that. */
  private static final int INDEX_ROOM = 128;
  /** Payments that are traded at once let a fund grow faster than its index. */
  private static final int FUND_ROOM = 192;
  /** For products of such numbers, and for the squares of errors. */
  private static final int WIDE_ROOM = 400;

  private static final int PAPER = 0;
  private static final int PRICE = 1;
  private static final int COUNT = 2;
  private static final int FREE = 3;
  private static final int SPLIT = 4;
  private static final int PAYMENT = 5;
  private static final int RIGHTS = 6;
  private static final int SPIN = 7;
  private static final int MERGER = 8;
  private static final int NEXT = 9;
  private static final int INDEX = 10;
  private static final int TAX = 11;
  private static final int PART = 12;
  private static final int REVIEW = 13;
  private static final int FUND = 14;
  private static final int MAKE = 15;
  private static final int TAKE = 16;
  private static final int TRADE = 17;
  private static final int LEND = 18;

  private static final int NOT_REVIEWED = 0;
  private static final int OK = 1;
  private static final int NO_CANDIDATES = 2;
  private static final int CAP_TOO_LOW = 3;

  private final int[] deeds = new int[DEEDS * ROW];
  /** For each told price and index the days whose levels it changed, a bit a day. */
  private final long[] moved = new long[DEEDS * INDEXES];
  private int done;
  private int steps;
  private int knocks;

  private final Prices prices = new Prices();
  private final Divider divider = new Divider();
  private final Reviewer reviewer = new Reviewer(prices, divider);
  private final Dealer dealer = new Dealer(prices, divider);
  private final Pen pen = new Pen();
  private final Big left = new Big(WIDE_ROOM);
  private final Big right = new Big(WIDE_ROOM);
  private final Big hand = new Big(WIDE_ROOM);
  private final Big factor = new Big(3);
  private Book book = new Book(prices, reviewer, dealer);
  private Book other = new Book(prices, reviewer, dealer);

  public Indexkeeper() {
  }

  // ---- papers and days

  public int paper(int count, int free, int kind, int price)
      throws IllegalArgumentException, IllegalStateException {
    needArgument(isIn(count, 1, 99999) && isIn(free, 1, 100));
    needArgument(isIn(kind, 0, KINDS - 1) && isIn(price, 1, 99999));
    needState(book.papersKnown < PAPERS);
    int number = book.papersKnown;
    if (isFull()) {
      return REFUSED;
    }
    prices.tell(number, book.today, price);
    book.perform(deeds, note(PAPER, count, free, kind, 0, 0, 0), done);
    return number;
  }

  public int price(int paper, int day, int price)
      throws IndexOutOfBoundsException, IllegalArgumentException {
    needThing(book.hasPaper(paper));
    needArgument(isIn(day, book.papers[paper].came, book.today) && isIn(price, 1, 99999));
    if (isFull()) {
      return REFUSED;
    }
    int row = done;
    book.settleToday();
    int before = prices.told(paper, day);
    prices.tell(paper, day, price);
    note(PRICE, paper, day, price, 0, 0, before);
    other.reset();
    other.perform(deeds, 0, done);
    other.settleToday();
    int answer = markMoved(row);
    swapBooks();
    return answer;
  }

  public int count(int paper, int count)
      throws IndexOutOfBoundsException, IllegalArgumentException, IllegalStateException {
    needThing(book.hasPaper(paper));
    needArgument(isIn(count, 1, 99999));
    needState(!book.papers[paper].isGone);
    int before = book.papers[paper].number;
    book.perform(deeds, note(COUNT, paper, count, 0, 0, 0, 0), done);
    return before;
  }

  public int free(int paper, int free)
      throws IndexOutOfBoundsException, IllegalArgumentException, IllegalStateException {
    needThing(book.hasPaper(paper));
    needArgument(isIn(free, 1, 100));
    needState(!book.papers[paper].isGone);
    int before = book.papers[paper].percent;
    book.perform(deeds, note(FREE, paper, free, 0, 0, 0, 0), done);
    return before;
  }

  public int split(int paper, int a, int b)
      throws IndexOutOfBoundsException, IllegalArgumentException, IllegalStateException {
    needThing(book.hasPaper(paper));
    needArgument(isRatio(a, b));
    needState(!book.papers[paper].isGone);
    book.perform(deeds, note(SPLIT, paper, a, b, 0, 0, 0), done);
    return book.papers[paper].number;
  }

  public String pay(int paper, int coins)
      throws IndexOutOfBoundsException, IllegalArgumentException, IllegalStateException {
    needThing(book.hasPaper(paper));
    needArgument(isIn(coins, 1, 99999));
    needState(!book.papers[paper].isGone);
    book.perform(deeds, note(PAYMENT, paper, coins, 0, 0, 0, 0), done);
    return digits(book.taken);
  }

  public int rights(int paper, int a, int b, int price)
      throws IndexOutOfBoundsException, IllegalArgumentException, IllegalStateException {
    needThing(book.hasPaper(paper));
    needArgument(isRatio(a, b) && isIn(price, 1, 99999));
    needState(!book.papers[paper].isGone);
    book.perform(deeds, note(RIGHTS, paper, a, b, price, 0, 0), done);
    return book.papers[paper].number;
  }

  public int spin(int paper, int a, int b, int price)
      throws IndexOutOfBoundsException, IllegalArgumentException, IllegalStateException {
    needThing(book.hasPaper(paper));
    needArgument(isRatio(a, b) && isIn(price, 1, 99999));
    needState(!book.papers[paper].isGone && book.papersKnown < PAPERS);
    int number = book.papersKnown;
    if (isFull()) {
      return REFUSED;
    }
    prices.tell(number, book.today, price);
    book.perform(deeds, note(SPIN, paper, a, b, 0, 0, 0), done);
    return number;
  }

  public int merge(int paper, int into, int a, int b)
      throws IndexOutOfBoundsException, IllegalArgumentException, IllegalStateException {
    needThing(book.hasPaper(paper) && book.hasPaper(into));
    needArgument(paper != into && isRatio(a, b));
    needState(!book.papers[paper].isGone && !book.papers[into].isGone);
    book.perform(deeds, note(MERGER, paper, into, a, b, 0, 0), done);
    return book.papers[into].number;
  }

  public int next() throws IllegalStateException {
    needState(book.today < LAST_DAY);
    book.perform(deeds, note(NEXT, 0, 0, 0, 0, 0, 0), done);
    return book.today;
  }

  // ---- indexes

  public int index(int way, int wanted, int buffer, int cap, int region, boolean isBack)
      throws IllegalArgumentException, IllegalStateException {
    needArgument(isIn(way, 0, 3) && isIn(wanted, 1, 8) && isIn(buffer, 0, 3));
    needArgument(isIn(cap, 10, 100) && isIn(region, NONE, KINDS - 1));
    needState(book.indexesKnown < INDEXES);
    int number = book.indexesKnown;
    book.perform(deeds, note(INDEX, way, wanted, buffer, cap, region, isBack ? 1 : 0), done);
    return number;
  }

  public int tax(int index, int percent)
      throws IndexOutOfBoundsException, IllegalArgumentException {
    needThing(book.hasIndex(index));
    needArgument(isIn(percent, 0, 100));
    int before = book.gauges[index].tax;
    book.perform(deeds, note(TAX, index, percent, 0, 0, 0, 0), done);
    return before;
  }

  public int part(int index, int whole)
      throws IndexOutOfBoundsException, IllegalArgumentException {
    needThing(book.hasIndex(index));
    needArgument(isIn(whole, NONE, index - 1));
    int before = book.gauges[index].whole;
    book.perform(deeds, note(PART, index, whole, 0, 0, 0, 0), done);
    return before;
  }

  public int review(int index) throws IndexOutOfBoundsException {
    needThing(book.hasIndex(index));
    book.perform(deeds, note(REVIEW, index, 0, 0, 0, 0, 0), done);
    return book.countDue();
  }

  // ---- funds

  public int fund(int index, int fee, int sample, int lots)
      throws IndexOutOfBoundsException, IllegalArgumentException, IllegalStateException {
    needThing(book.hasIndex(index));
    needArgument(isIn(fee, 0, 999) && isIn(sample, 0, 8) && isIn(lots, 1, 100));
    needState(book.fundsKnown < FUNDS);
    int number = book.fundsKnown;
    book.perform(deeds, note(FUND, index, fee, sample, lots, 0, 0), done);
    return number;
  }

  public int make(int fund, int units)
      throws IndexOutOfBoundsException, IllegalArgumentException {
    needThing(book.hasFund(fund));
    needArgument(isIn(units, 1, 9999));
    Purse purse = book.purses[fund];
    if (purse.units > 0 && (purse.units + units > MOST_UNITS || worthSign(purse) <= 0)) {
      return REFUSED;
    }
    book.perform(deeds, note(MAKE, fund, units, 0, 0, 0, 0), done);
    return purse.units;
  }

  public int take(int fund, int units)
      throws IndexOutOfBoundsException, IllegalArgumentException {
    needThing(book.hasFund(fund));
    needArgument(isIn(units, 1, 9999));
    Purse purse = book.purses[fund];
    if (purse.units < units || worthSign(purse) <= 0) {
      return REFUSED;
    }
    book.perform(deeds, note(TAKE, fund, units, 0, 0, 0, 0), done);
    return purse.units;
  }

  public int trade(int fund) throws IndexOutOfBoundsException {
    needThing(book.hasFund(fund));
    Purse purse = book.purses[fund];
    if (!book.gauges[purse.follows].basket.isInForce) {
      return REFUSED;
    }
    book.perform(deeds, note(TRADE, fund, 0, 0, 0, 0, 0), done);
    return purse.touched;
  }

  public int lend(int fund, int paper, int percent)
      throws IndexOutOfBoundsException, IllegalArgumentException {
    needThing(book.hasFund(fund) && book.hasPaper(paper));
    needArgument(isIn(percent, 0, 100));
    int before = book.purses[fund].lent[paper];
    book.perform(deeds, note(LEND, fund, paper, percent, 0, 0, 0), done);
    return before;
  }

  // ---- what is asked of papers

  public int ofPaper(int paper, int what)
      throws IndexOutOfBoundsException, IllegalArgumentException {
    needThing(book.hasPaper(paper));
    needArgument(isIn(what, 0, 6));
    return tellPaper(paper, what);
  }

  public int priceOn(int paper, int day)
      throws IndexOutOfBoundsException, IllegalArgumentException {
    needThing(book.hasPaper(paper));
    needArgument(isIn(day, 0, book.today));
    return prices.on(paper, day);
  }

  public String size(int paper) throws IndexOutOfBoundsException {
    needThing(book.hasPaper(paper));
    hand.put(book.sizeOf(paper));
    return digits(hand);
  }

  public String votes(int paper, boolean isVotes) throws IndexOutOfBoundsException {
    needThing(book.hasPaper(paper));
    sumVotes(paper, isVotes);
    return digits(hand);
  }

  public int rank(int index, int paper) throws IndexOutOfBoundsException {
    needThing(book.hasIndex(index) && book.hasPaper(paper));
    reviewer.line(book, book.gauges[index]);
    return reviewer.rankOf(paper);
  }

  // ---- what is asked of indexes

  public int ofIndex(int index, int what)
      throws IndexOutOfBoundsException, IllegalArgumentException {
    needThing(book.hasIndex(index));
    needArgument(isIn(what, 0, 11));
    return tellIndex(book.gauges[index], what);
  }

  public String level(int index, int day)
      throws IndexOutOfBoundsException, IllegalArgumentException {
    needThing(book.hasIndex(index));
    needArgument(isIn(day, 0, book.today));
    pen.clear();
    book.settleToday();
    writeLevel(book.gauges[index], day);
    return pen.text();
  }

  public String members(int index) throws IndexOutOfBoundsException {
    needThing(book.hasIndex(index));
    Gauge gauge = book.gauges[index];
    pen.clear();
    for (int p = 0; p < PAPERS; p++) {
      if (gauge.isMember[p]) {
        pen.space();
        pen.number(p);
      }
    }
    return pen.text();
  }

  public String why(int index) throws IndexOutOfBoundsException {
    needThing(book.hasIndex(index));
    return verdict(book.gauges[index]);
  }

  public String weight(int index, int paper) throws IndexOutOfBoundsException {
    needThing(book.hasIndex(index) && book.hasPaper(paper));
    Gauge gauge = book.gauges[index];
    pen.clear();
    hand.put(gauge.weightUpper[paper]);
    pen.big(hand);
    pen.sign('/');
    hand.put(gauge.weightLower[paper]);
    pen.big(hand);
    return pen.text();
  }

  public int isCut(int index, int paper) throws IndexOutOfBoundsException {
    needThing(book.hasIndex(index) && book.hasPaper(paper));
    return book.gauges[index].isCapped[paper] ? 1 : 0;
  }

  public int part10000(int index, int paper) throws IndexOutOfBoundsException {
    needThing(book.hasIndex(index) && book.hasPaper(paper));
    return shareOf(book.gauges[index], paper);
  }

  public int common(int a, int b) throws IndexOutOfBoundsException {
    needThing(book.hasIndex(a) && book.hasIndex(b));
    int both = 0;
    for (int p = 0; p < PAPERS; p++) {
      if (book.gauges[a].isMember[p] && book.gauges[b].isMember[p]) {
        both++;
      }
    }
    return both;
  }

  public String growth(int index, int from, int to)
      throws IndexOutOfBoundsException, IllegalArgumentException {
    needThing(book.hasIndex(index));
    needArgument(isIn(from, 0, book.today) && isIn(to, 0, book.today));
    Gauge gauge = book.gauges[index];
    book.settleToday();
    boolean isThere = gauge.hasLevel(from, book.today) && gauge.hasLevel(to, book.today);
    if (!isThere || gauge.levels[from].length == 0) {
      return "-";
    }
    pen.clear();
    writeFraction(gauge.levels[to], gauge.levels[from]);
    return pen.text();
  }

  public String report(int index) throws IndexOutOfBoundsException {
    needThing(book.hasIndex(index));
    pen.clear();
    writeReport(book.gauges[index]);
    return pen.text();
  }

  public String changed() {
    pen.clear();
    writeMoved();
    return pen.text();
  }

  // ---- what is asked of funds

  public int ofFund(int fund, int what)
      throws IndexOutOfBoundsException, IllegalArgumentException {
    needThing(book.hasFund(fund));
    needArgument(isIn(what, 0, 8));
    return tellFund(book.purses[fund], what);
  }

  public String money(int fund, int what)
      throws IndexOutOfBoundsException, IllegalArgumentException {
    needThing(book.hasFund(fund));
    needArgument(isIn(what, 0, 2));
    pen.clear();
    writeMoney(book.purses[fund], what);
    return pen.text();
  }

  public String held(int fund, int paper) throws IndexOutOfBoundsException {
    needThing(book.hasFund(fund) && book.hasPaper(paper));
    return digits(book.purses[fund].shares[paper]);
  }

  public String unit(int fund) throws IndexOutOfBoundsException {
    needThing(book.hasFund(fund));
    Purse purse = book.purses[fund];
    if (purse.units < 1) {
      return "-";
    }
    dealer.worth(book, purse, left);
    hand.copy(left);
    int common = (int) gcd(purse.units, hand.shrink(purse.units));
    left.shrink(common);
    pen.clear();
    pen.big(left);
    pen.sign('/');
    pen.number(common < 1 ? purse.units : purse.units / common);
    return pen.text();
  }

  public String would(int fund) throws IndexOutOfBoundsException {
    needThing(book.hasFund(fund));
    pen.clear();
    writePlan(book.purses[fund]);
    return pen.text();
  }

  public String error(int fund) throws IndexOutOfBoundsException {
    needThing(book.hasFund(fund));
    return digits(book.purses[fund].misses);
  }

  public String gain(int fund, int price)
      throws IndexOutOfBoundsException, IllegalArgumentException {
    needThing(book.hasFund(fund));
    needArgument(isIn(price, 1, 999999));
    Purse purse = book.purses[fund];
    if (purse.units < 1) {
      return "-";
    }
    dealer.worth(book, purse, left);
    hand.put((long) price * purse.units);
    hand.add(left, true);
    int side = hand.side();
    if (side == 0) {
      return "0";
    }
    hand.isBelow = false;
    hand.shrink(purse.units);
    pen.clear();
    pen.big(hand);
    pen.sign(side > 0 ? 'm' : 't');
    return pen.text();
  }

  public String collateral(int fund) throws IndexOutOfBoundsException {
    needThing(book.hasFund(fund));
    sumCollateral(book.purses[fund]);
    return digits(right);
  }

  // ---- the house

  public int undo() throws IllegalStateException {
    needState(steps > 0 && done > 0);
    steps--;
    done--;
    int at = done * ROW;
    if (deeds[at] == PRICE) {
      prices.tell(deeds[at + 1], deeds[at + 2], deeds[at + 6]);
    } else if (deeds[at] == PAPER || deeds[at] == SPIN) {
      prices.forget(book.papersKnown - 1);
    }
    other.reset();
    other.perform(deeds, 0, done);
    swapBooks();
    return steps;
  }

  public int house(int what) throws IllegalArgumentException {
    needArgument(isIn(what, 0, 7));
    return tellHouse(what);
  }

  public int knock() {
    knocks++;
    return knocks;
  }

  public boolean isSound() {
    other.reset();
    other.perform(deeds, 0, done);
    return isAlike();
  }

  public long digest() {
    long d = 6903;
    for (int what = 0; what < 8; what++) {
      d = d * 31 + tellHouse(what);
    }
    d = foldPapers(d);
    d = foldIndexes(d);
    d = foldFunds(d);
    pen.clear();
    writeMoved();
    d = d * 31 + pen.length();
    other.reset();
    other.perform(deeds, 0, done);
    return d * 31 + (isAlike() ? 1 : 0);
  }

  // ---- what the face asks of its arguments

  private static boolean isIn(int value, int least, int most) {
    return value >= least && value <= most;
  }

  private static boolean isRatio(int a, int b) {
    return isIn(a, 1, 20) && isIn(b, 1, 20);
  }

  private static void needThing(boolean isThere) {
    if (!isThere) {
      throw new IndexOutOfBoundsException("no thing has this number");
    }
  }

  private static void needArgument(boolean isGood) {
    if (!isGood) {
      throw new IllegalArgumentException("an argument is out of its bounds");
    }
  }

  private static void needState(boolean isGood) {
    if (!isGood) {
      throw new IllegalStateException("this cannot be done now");
    }
  }

  // ---- deeds

  private boolean isFull() {
    return done >= DEEDS;
  }

  /** Answers the row of the deed. */
  private int note(int deed, int a, int b, int c, int d, int e, int f) {
    int row = done;
    // behind the 512th call answers are free, so a deed without a row is left out
    if (isFull()) {
      return row;
    }
    int at = row * ROW;
    deeds[at] = deed;
    deeds[at + 1] = a;
    deeds[at + 2] = b;
    deeds[at + 3] = c;
    deeds[at + 4] = d;
    deeds[at + 5] = e;
    deeds[at + 6] = f;
    done++;
    steps = steps < STEPS_BACK ? steps + 1 : STEPS_BACK;
    return row;
  }

  private void swapBooks() {
    Book old = book;
    book = other;
    other = old;
  }

  /** Notes at the row of a told price the levels that the other book has otherwise. */
  private int markMoved(int row) {
    int all = 0;
    for (int i = 0; i < INDEXES && row >= 0 && row < DEEDS; i++) {
      long bits = 0;
      for (int day = 0; day <= book.today && i < book.indexesKnown; day++) {
        if (!isSameLevel(i, day)) {
          bits |= 1L << day;
          all++;
        }
      }
      moved[row * INDEXES + i] = bits;
    }
    return all;
  }

  /** Both books have settled today. */
  private boolean isSameLevel(int index, int day) {
    Gauge one = book.gauges[index];
    Gauge two = other.gauges[index];
    boolean isThere = one.hasLevel(day, book.today);
    if (isThere != two.hasLevel(day, other.today)) {
      return false;
    }
    return !isThere || one.levels[day].compareSize(two.levels[day]) == 0;
  }

  // ---- what numbers are told

  private int tellPaper(int paper, int what) {
    Paper it = book.papers[paper];
    switch (what) {
      case 0:
        return it.kind;
      case 1:
        return it.number;
      case 2:
        return it.percent;
      case 3:
        return book.priceNow(paper);
      case 4:
        return it.came;
      case 5:
        return it.isGone ? 1 : 0;
      default:
        return book.countMemberships(paper);
    }
  }

  private int tellIndex(Gauge gauge, int what) {
    switch (what) {
      case 0:
        return gauge.way;
      case 1:
        return gauge.wanted;
      case 2:
        return gauge.buffer;
      case 3:
        return gauge.cap;
      case 4:
        return gauge.region;
      case 5:
        return gauge.isBack ? 1 : 0;
      case 6:
        return gauge.tax;
      case 7:
        return gauge.whole;
      case 8:
        return gauge.countMembers();
      case 9:
        return gauge.first;
      case 10:
        return gauge.isDue ? 1 : 0;
      default:
        return gauge.drift;
    }
  }

  private int tellFund(Purse purse, int what) {
    switch (what) {
      case 0:
        return purse.follows;
      case 1:
        return purse.fee;
      case 2:
        return purse.sample;
      case 3:
        return purse.lots;
      case 4:
        return purse.units;
      case 5:
        return purse.left;
      case 6:
        return purse.countHeld();
      case 7:
        return purse.touched;
      default:
        return purse.carried;
    }
  }

  private int tellHouse(int what) {
    switch (what) {
      case 0:
        return book.today;
      case 1:
        return book.papersKnown;
      case 2:
        return book.indexesKnown;
      case 3:
        return book.fundsKnown;
      case 4:
        return steps;
      case 5:
        return book.countDue();
      case 6:
        return knocks;
      default:
        return book.countGone();
    }
  }

  private static String verdict(Gauge gauge) {
    switch (gauge.verdict) {
      case OK:
        return "ok";
      case NO_CANDIDATES:
        return "none";
      case CAP_TOO_LOW:
        return "cap";
      default:
        return "-";
    }
  }

  private int worthSign(Purse purse) {
    dealer.worth(book, purse, hand);
    return hand.side();
  }

  /** The floor of 10000 times what part of the basket a paper is. */
  private int shareOf(Gauge gauge, int paper) {
    if (!gauge.basket.isInForce) {
      return 0;
    }
    gauge.basket.worth(right, prices, book.today);
    left.put(0);
    left.addTimes(gauge.basket.shares[paper], book.priceNow(paper));
    left.scale(10000);
    divider.divide(left, right);
    return (int) divider.quotient.small();
  }

  /** Leaves the sum in hand. */
  private void sumVotes(int paper, boolean isVotes) {
    hand.put(0);
    for (int f = 0; f < book.fundsKnown; f++) {
      Purse purse = book.purses[f];
      hand.add(purse.shares[paper], false);
      if (isVotes) {
        purse.putLent(left, paper);
        hand.add(left, true);
      }
    }
  }

  /** Leaves the sum in right. */
  private void sumCollateral(Purse purse) {
    right.put(0);
    for (int p = 0; p < book.papersKnown; p++) {
      purse.putLent(left, p);
      left.scale(book.priceNow(p));
      left.scale(105);
      int rest = left.shrink(100);
      hand.put(rest > 0 ? 1 : 0);
      right.add(left, false);
      right.add(hand, false);
    }
  }

  private static long gcd(long a, long b) {
    long x = a;
    long y = b;
    // numbers of 64 bits take fewer than a hundred steps
    for (int i = 0; i < 200 && y != 0; i++) {
      long rest = x % y;
      x = y;
      y = rest;
    }
    return x;
  }

  // ---- what texts are told

  private String digits(Big number) {
    pen.clear();
    pen.big(number);
    return pen.text();
  }

  /** Today has been settled. */
  private void writeLevel(Gauge gauge, int day) {
    if (gauge.hasLevel(day, book.today)) {
      pen.big(gauge.levels[day]);
    } else {
      pen.sign('-');
    }
  }

  private void writeFraction(Big upper, Big lower) {
    left.copy(upper);
    right.copy(lower);
    // numbers of 1200 digits take fewer than 6000 steps
    for (int i = 0; i < 100000 && right.length > 0; i++) {
      divider.divide(left, right);
      left.copy(right);
      right.copy(divider.rest);
    }
    hand.copy(left);
    divider.divide(upper, hand);
    pen.big(divider.quotient);
    pen.sign('/');
    divider.divide(lower, hand);
    pen.big(divider.quotient);
  }

  private void writeReport(Gauge gauge) {
    for (int p = 0; p < book.papersKnown && gauge.basket.isInForce; p++) {
      if (gauge.basket.shares[p].length > 0) {
        int part = shareOf(gauge, p);
        pen.filled(p, 2);
        pen.sign(' ');
        pen.filled(part / 100, 3);
        pen.sign('.');
        pen.number(part / 10 % 10);
        pen.number(part % 10);
        pen.sign(';');
      }
    }
  }

  private void writeMoved() {
    int row = done - 1;
    for (; row >= 0 && row < DEEDS && deeds[row * ROW] != PRICE; row--) {
      continue;
    }
    for (int i = 0; i < INDEXES && row >= 0 && row < DEEDS; i++) {
      long bits = moved[row * INDEXES + i];
      for (int day = 0; day < DAYS; day++) {
        if ((bits >> day & 1L) != 0) {
          pen.space();
          pen.number(i);
          pen.sign(':');
          pen.number(day);
        }
      }
    }
  }

  private void writeMoney(Purse purse, int what) {
    if (what == 0) {
      pen.big(purse.money);
    } else if (what == 1) {
      dealer.worth(book, purse, hand);
      pen.big(hand);
    } else {
      pen.big(purse.fees);
    }
  }

  private void writePlan(Purse purse) {
    if (!book.gauges[purse.follows].basket.isInForce) {
      pen.sign('-');
      return;
    }
    dealer.plan(book, purse);
    for (int p = 0; p < book.papersKnown; p++) {
      hand.copy(dealer.goals[p]);
      hand.add(purse.shares[p], true);
      if (hand.length > 0) {
        pen.space();
        pen.number(p);
        pen.sign(':');
        pen.big(hand);
      }
    }
  }

  // ---- the checksum

  private long foldPapers(long start) {
    long d = start;
    for (int p = 0; p < book.papersKnown; p++) {
      for (int what = 0; what < 7; what++) {
        d = d * 31 + tellPaper(p, what);
      }
      pen.clear();
      sumVotes(p, true);
      pen.big(hand);
      sumVotes(p, false);
      pen.big(hand);
      d = pen.fold(d);
    }
    return d;
  }

  private long foldIndexes(long start) {
    long d = start;
    book.settleToday();
    for (int i = 0; i < book.indexesKnown; i++) {
      Gauge gauge = book.gauges[i];
      for (int what = 0; what < 12; what++) {
        d = d * 31 + tellIndex(gauge, what);
      }
      pen.clear();
      pen.word(verdict(gauge));
      for (int day = 0; day <= book.today && day < DAYS; day++) {
        writeLevel(gauge, day);
      }
      d = pen.fold(d);
      for (int p = 0; p < book.papersKnown; p++) {
        d = d * 31 + shareOf(gauge, p);
        d = d * 31 + (gauge.isCapped[p] ? 1 : 0);
      }
      pen.clear();
      writeReport(gauge);
      d = d * 31 + pen.length();
    }
    return d;
  }

  private long foldFunds(long start) {
    long d = start;
    for (int f = 0; f < book.fundsKnown; f++) {
      Purse purse = book.purses[f];
      for (int what = 0; what < 9; what++) {
        d = d * 31 + tellFund(purse, what);
      }
      pen.clear();
      for (int what = 0; what < 3; what++) {
        writeMoney(purse, what);
      }
      for (int p = 0; p < book.papersKnown; p++) {
        pen.big(purse.shares[p]);
      }
      d = pen.fold(d);
      // the pen puts a space between what it writes in a row, so a row starts with an empty pen
      pen.clear();
      writePlan(purse);
      pen.big(purse.misses);
      sumCollateral(purse);
      pen.big(right);
      d = pen.fold(d);
    }
    return d;
  }

  // ---- soundness

  /** The other book has done all anew. */
  private boolean isAlike() {
    book.settleToday();
    other.settleToday();
    boolean isGood = true;
    for (int i = 0; i < book.indexesKnown; i++) {
      for (int day = 0; day <= book.today && day < DAYS; day++) {
        isGood = isGood && isSameLevel(i, day);
      }
      isGood = isGood && isWhole(book.gauges[i]) && isUnderCap(book.gauges[i]);
    }
    for (int f = 0; f < book.fundsKnown; f++) {
      isGood = isGood && isIn(book.purses[f].carried, 0, YEAR - 1);
      isGood = isGood && isSameFund(book.purses[f], other.purses[f]);
    }
    return isGood;
  }

  private boolean isSameFund(Purse one, Purse two) {
    boolean isSame = one.units == two.units && one.money.isBelow == two.money.isBelow;
    isSame = isSame && one.money.compareSize(two.money) == 0;
    for (int p = 0; p < PAPERS; p++) {
      isSame = isSame && one.shares[p].compareSize(two.shares[p]) == 0;
    }
    return isSame;
  }

  /** Whether the weights are 1 together: upper in left, lower in right. */
  private boolean isWhole(Gauge gauge) {
    if (gauge.first == NONE) {
      return true;
    }
    left.put(0);
    right.put(1);
    for (int p = 0; p < PAPERS; p++) {
      if (gauge.isMember[p]) {
        factor.put(gauge.weightLower[p]);
        hand.product(left, factor);
        left.copy(hand);
        factor.put(gauge.weightUpper[p]);
        hand.product(right, factor);
        left.add(hand, false);
        factor.put(gauge.weightLower[p]);
        hand.product(right, factor);
        right.copy(hand);
      }
    }
    return left.compareSize(right) == 0;
  }

  private boolean isUnderCap(Gauge gauge) {
    boolean isGood = true;
    for (int p = 0; p < PAPERS && gauge.way == 2; p++) {
      left.put(gauge.weightUpper[p]);
      left.scale(100);
      right.put(gauge.weightLower[p]);
      right.scale(gauge.cap);
      int side = left.compareSize(right);
      isGood = isGood && (gauge.isCapped[p] ? side == 0 : side <= 0);
    }
    return isGood;
  }

  // ---- the classes inside

  /** A whole number: nine digits a limb, the lowest limb first; zero has no limbs. */
  private static final class Big {
    static final int BASE = 1000000000;
    final int[] limbs;
    int length;
    boolean isBelow;

    Big(int room) {
      limbs = new int[room < 1 ? 1 : room];
    }

    void put(long value) {
      long rest = value < 0 ? -value : value;
      length = 0;
      for (int i = 0; i < limbs.length && rest > 0; i++) {
        limbs[i] = (int) (rest % BASE);
        rest /= BASE;
        length = i + 1;
      }
      isBelow = value < 0;
    }

    void copy(Big from) {
      length = from.length < limbs.length ? from.length : limbs.length;
      System.arraycopy(from.limbs, 0, limbs, 0, length);
      isBelow = from.isBelow;
    }

    /** The number, where it is known to be below a quintillion. */
    long small() {
      if (length == 0) {
        return 0;
      }
      return length == 1 || limbs.length == 1 ? limbs[0] : (long) limbs[1] * BASE + limbs[0];
    }

    int side() {
      return length == 0 ? 0 : isBelow ? -1 : 1;
    }

    /** Compares without the signs. */
    int compareSize(Big with) {
      if (length != with.length) {
        return length < with.length ? -1 : 1;
      }
      for (int i = length - 1; i >= 0; i--) {
        if (limbs[i] != with.limbs[i]) {
          return limbs[i] < with.limbs[i] ? -1 : 1;
        }
      }
      return 0;
    }

    /** Adds, or subtracts. */
    void add(Big what, boolean isOff) {
      boolean below = what.isBelow != isOff;
      if (what.length == 0) {
        return;
      }
      if (length == 0) {
        isBelow = below;
      }
      if (isBelow == below) {
        addTimes(what, 1);
        return;
      }
      boolean isMore = compareSize(what) >= 0;
      Big more = isMore ? this : what;
      Big less = isMore ? what : this;
      int borrow = 0;
      int most = more.length < limbs.length ? more.length : limbs.length;
      for (int i = 0; i < most; i++) {
        int limb = more.limbs[i] - (i < less.length ? less.limbs[i] : 0) - borrow;
        borrow = limb < 0 ? 1 : 0;
        limbs[i] = limb < 0 ? limb + BASE : limb;
      }
      length = most;
      isBelow = isMore ? isBelow : below;
      trim();
    }

    /** Adds another number as often as told, without the signs. */
    void addTimes(Big what, int factor) {
      if (factor < 1) {
        return;
      }
      long carry = 0;
      int i = 0;
      for (; i < limbs.length && (i < what.length || carry > 0); i++) {
        long sum = carry + (i < length ? limbs[i] : 0);
        sum += i < what.length ? (long) what.limbs[i] * factor : 0;
        limbs[i] = (int) (sum % BASE);
        carry = sum / BASE;
      }
      length = i > length ? i : length;
    }

    void scale(int factor) {
      long carry = 0;
      for (int i = 0; i < length; i++) {
        long limb = (long) limbs[i] * factor + carry;
        limbs[i] = (int) (limb % BASE);
        carry = limb / BASE;
      }
      for (; carry > 0 && length < limbs.length; length++) {
        limbs[length] = (int) (carry % BASE);
        carry /= BASE;
      }
      trim();
    }

    /** Divides without the sign; answers the rest. */
    int shrink(int divisor) {
      if (divisor < 1) {
        return 0;
      }
      long rest = 0;
      for (int i = length - 1; i >= 0; i--) {
        long limb = rest * BASE + limbs[i];
        limbs[i] = (int) (limb / divisor);
        rest = limb % divisor;
      }
      trim();
      return (int) rest;
    }

    /** Becomes the product of two others. */
    void product(Big a, Big b) {
      int most = a.length + b.length < limbs.length ? a.length + b.length : limbs.length;
      Arrays.fill(limbs, 0, most, 0);
      for (int i = 0; i < a.length && i < most; i++) {
        long carry = 0;
        int j = 0;
        for (; j < b.length && i + j < most; j++) {
          long limb = (long) a.limbs[i] * b.limbs[j] + limbs[i + j] + carry;
          limbs[i + j] = (int) (limb % BASE);
          carry = limb / BASE;
        }
        if (i + j < most) {
          limbs[i + j] = (int) carry;
        }
      }
      length = most;
      isBelow = a.isBelow != b.isBelow;
      trim();
    }

    void trim() {
      for (; length > 0 && limbs[length - 1] == 0; length--) {
        continue;
      }
      if (length == 0) {
        isBelow = false;
      }
    }
  }

  /** Divides without the signs. */
  private static final class Divider {
    private static final int BASE = Big.BASE;
    final Big quotient = new Big(WIDE_ROOM);
    final Big rest = new Big(WIDE_ROOM);
    private final int[] over = new int[WIDE_ROOM + 1];
    private final int[] under = new int[WIDE_ROOM + 1];

    void divide(Big top, Big bottom) {
      quotient.put(0);
      rest.copy(top);
      rest.isBelow = false;
      if (bottom.length == 0 || top.compareSize(bottom) < 0 || top.length > WIDE_ROOM) {
        return;
      }
      if (bottom.length == 1) {
        quotient.copy(top);
        quotient.isBelow = false;
        rest.put(quotient.shrink(bottom.limbs[0]));
        return;
      }
      // the guess of a digit is off by two at most, if the first limb below is half a BASE or more
      int factor = BASE / (bottom.limbs[bottom.length - 1] + 1);
      spread(top, factor, over);
      spread(bottom, factor, under);
      int n = bottom.length;
      for (int at = top.length - n; at >= 0; at--) {
        quotient.limbs[at] = remove(at, n, guess(at, n));
      }
      quotient.length = top.length - n + 1;
      quotient.trim();
      System.arraycopy(over, 0, rest.limbs, 0, n);
      rest.length = n;
      rest.trim();
      rest.shrink(factor);
    }

    private static void spread(Big from, int factor, int[] to) {
      long carry = 0;
      for (int i = 0; i < to.length && i <= from.length; i++) {
        long limb = carry + (i < from.length ? (long) from.limbs[i] * factor : 0);
        to[i] = (int) (limb % BASE);
        carry = limb / BASE;
      }
    }

    private int guess(int at, int n) {
      if (n < 2 || at < 0 || at + n >= over.length || under[n - 1] < 1) {
        return 0;
      }
      long head = (long) over[at + n] * BASE + over[at + n - 1];
      long lead = under[n - 1];
      long digit = head / lead;
      long over3 = head % lead;
      for (int i = 0; i < 4 && over3 < BASE; i++) {
        if (digit < BASE && digit * under[n - 2] <= over3 * BASE + over[at + n - 2]) {
          break;
        }
        digit--;
        over3 += lead;
      }
      return (int) digit;
    }

    /** Takes the digit's part off what is over; answers the digit that was right. */
    private int remove(int at, int n, int digit) {
      if (at < 0 || at + n >= over.length) {
        return 0;
      }
      long carry = 0;
      for (int i = 0; i < n; i++) {
        long part = (long) digit * under[i] + carry;
        int limb = over[at + i] - (int) (part % BASE);
        carry = part / BASE + (limb < 0 ? 1 : 0);
        over[at + i] = limb < 0 ? limb + BASE : limb;
      }
      boolean isTooMuch = over[at + n] < carry;
      over[at + n] = 0;
      int back = 0;
      for (int i = 0; i < n && isTooMuch; i++) {
        int limb = over[at + i] + under[i] + back;
        back = limb >= BASE ? 1 : 0;
        over[at + i] = limb >= BASE ? limb - BASE : limb;
      }
      return isTooMuch ? digit - 1 : digit;
    }
  }

  /** Writes texts into one room, which is used again and again. */
  private static final class Pen {
    private final StringBuilder signs = new StringBuilder();

    void clear() {
      signs.setLength(0);
    }

    /** A space between things in a row, but none ahead of the first one. */
    void space() {
      if (signs.length() > 0) {
        signs.append(' ');
      }
    }

    void sign(char sign) {
      signs.append(sign);
    }

    void word(String word) {
      signs.append(word);
    }

    void number(int number) {
      signs.append(number);
    }

    /** A number below 1000, with spaces ahead. */
    void filled(int number, int width) {
      if (width > 2 && number < 100) {
        signs.append(' ');
      }
      if (width > 1 && number < 10) {
        signs.append(' ');
      }
      signs.append(number);
    }

    void big(Big number) {
      if (number.length == 0) {
        signs.append('0');
        return;
      }
      if (number.isBelow) {
        signs.append('-');
      }
      signs.append(number.limbs[number.length - 1]);
      for (int i = number.length - 2; i >= 0; i--) {
        for (int unit = Big.BASE / 10; unit > 0; unit /= 10) {
          signs.append((char) ('0' + number.limbs[i] / unit % 10));
        }
      }
    }

    int length() {
      return signs.length();
    }

    String text() {
      return signs.toString();
    }

    long fold(long start) {
      long d = start;
      int most = signs.length();
      for (int i = 0; i < most; i++) {
        d = d * 31 + signs.charAt(i);
      }
      return d;
    }
  }

  /** The prices that were told; they outlive the books. */
  private static final class Prices {
    /** 0 where none is told. */
    private final int[][] rows = new int[PAPERS][DAYS];

    private static boolean isPlace(int paper, int day) {
      return isIn(paper, 0, PAPERS - 1) && isIn(day, 0, LAST_DAY);
    }

    int told(int paper, int day) {
      return isPlace(paper, day) ? rows[paper][day] : 0;
    }

    void tell(int paper, int day, int price) {
      if (isPlace(paper, day)) {
        rows[paper][day] = price;
      }
    }

    void forget(int paper) {
      for (int day = 0; day < DAYS && isPlace(paper, day); day++) {
        rows[paper][day] = 0;
      }
    }

    int on(int paper, int day) {
      if (paper < 0 || paper >= PAPERS || day > LAST_DAY) {
        return NONE;
      }
      for (int d = day; d >= 0; d--) {
        if (rows[paper][d] > 0) {
          return rows[paper][d];
        }
      }
      return NONE;
    }
  }

  private static final class Paper {
    int kind;
    int number;
    int percent;
    int came;
    boolean isGone;

    void open(int count, int free, int itsKind, int day) {
      number = count;
      percent = free;
      kind = itsKind;
      came = day;
      isGone = false;
    }

    void setNumber(long count) {
      number = count < 1 ? 1 : count > 999999999 ? 999999999 : (int) count;
    }
  }

  /** What an index holds. All numbers are exact, times one and the same number that nobody asks for. */
  private static final class Basket {
    boolean isInForce;
    final Big[] shares = new Big[PAPERS];
    /** What it was worth as it came in force or stayed. */
    private final Big base = new Big(INDEX_ROOM);
    private final Big paidIn = new Big(INDEX_ROOM);
    /** In hundredths, for the tax is in percent. */
    private final Big backed = new Big(INDEX_ROOM);
    private final Big old = new Big(INDEX_ROOM);

    Basket() {
      for (int p = 0; p < PAPERS; p++) {
        shares[p] = new Big(INDEX_ROOM);
      }
    }

    void empty() {
      isInForce = false;
      for (int p = 0; p < PAPERS; p++) {
        shares[p].put(0);
      }
    }

    void worth(Big sum, Prices prices, int day) {
      sum.put(0);
      for (int p = 0; p < PAPERS; p++) {
        if (shares[p].length > 0) {
          sum.addTimes(shares[p], prices.on(p, day));
        }
      }
    }

    void startDay(Prices prices, int day) {
      worth(base, prices, day);
      paidIn.put(0);
      backed.put(0);
    }

    boolean has(int paper) {
      return isInForce && shares[paper].length > 0;
    }

    /** Makes room for a division: all but one paper become so many times as much. */
    private void scaleAll(int factor, int but) {
      for (int p = 0; p < PAPERS && factor > 1; p++) {
        if (p != but) {
          shares[p].scale(factor);
        }
      }
      if (factor > 1) {
        base.scale(factor);
        paidIn.scale(factor);
        backed.scale(factor);
      }
    }

    void turn(int paper, int a, int b) {
      scaleAll(b, paper);
      shares[paper].scale(a);
    }

    void enlarge(int paper, int a, int b, int price) {
      old.copy(shares[paper]);
      scaleAll(b, paper);
      shares[paper].scale(a + b);
      paidIn.addTimes(old, a * price);
    }

    void branch(int paper, int fresh, int a, int b) {
      old.copy(shares[paper]);
      scaleAll(b, NONE);
      shares[fresh].put(0);
      shares[fresh].addTimes(old, a);
    }

    void absorb(int paper, int into, int a, int b) {
      scaleAll(b, paper);
      shares[into].addTimes(shares[paper], a);
      shares[paper].put(0);
    }

    void receive(int paper, int hundredths) {
      backed.addTimes(shares[paper], hundredths);
    }

    /** What it is worth with what came back, and what it was worth with what was paid in. */
    void compare(Big now, Big then, Prices prices, int day) {
      worth(now, prices, day);
      now.scale(100);
      now.add(backed, false);
      then.copy(base);
      then.add(paidIn, false);
      then.scale(100);
    }
  }

  /** An index. */
  private static final class Gauge {
    int way;
    int wanted;
    int buffer;
    int cap;
    int region;
    boolean isBack;
    int tax;
    int whole;
    boolean isDue;
    int verdict;
    int first;
    int drift;
    final boolean[] isMember = new boolean[PAPERS];
    final boolean[] isCapped = new boolean[PAPERS];
    final long[] weightUpper = new long[PAPERS];
    final long[] weightLower = new long[PAPERS];
    final Big[] levels = new Big[DAYS];
    final Basket basket = new Basket();

    Gauge() {
      for (int day = 0; day < DAYS; day++) {
        levels[day] = new Big(INDEX_ROOM);
      }
    }

    void open(int itsWay, int wants, int itsBuffer, int itsCap, int itsRegion, boolean putsBack) {
      way = itsWay;
      wanted = wants;
      buffer = itsBuffer;
      cap = itsCap;
      region = itsRegion;
      isBack = putsBack;
      tax = 0;
      whole = NONE;
      isDue = false;
      verdict = NOT_REVIEWED;
      first = NONE;
      drift = 0;
      basket.empty();
      dismiss();
    }

    void dismiss() {
      for (int p = 0; p < PAPERS; p++) {
        isMember[p] = false;
        isCapped[p] = false;
        weightUpper[p] = 0;
        weightLower[p] = 1;
      }
    }

    boolean hasLevel(int day, int today) {
      return first != NONE && isIn(day, first, today) && day < DAYS;
    }

    int countMembers() {
      int all = 0;
      for (int p = 0; p < PAPERS; p++) {
        all += isMember[p] ? 1 : 0;
      }
      return all;
    }
  }

  /** A fund. */
  private static final class Purse {
    int follows;
    int fee;
    int sample;
    int lots;
    int units;
    int left;
    int touched;
    int carried;
    final Big money = new Big(FUND_ROOM);
    final Big fees = new Big(FUND_ROOM);
    final Big[] shares = new Big[PAPERS];
    final int[] lent = new int[PAPERS];
    /** The sum of the squares of its errors. */
    final Big misses = new Big(WIDE_ROOM);
    /** How it stood at the end of the day ahead. */
    boolean stood;
    int unitsThen;
    final Big worthThen = new Big(FUND_ROOM);

    Purse() {
      for (int p = 0; p < PAPERS; p++) {
        shares[p] = new Big(FUND_ROOM);
      }
    }

    void open(int index, int itsFee, int itsSample, int itsLots) {
      follows = index;
      fee = itsFee;
      sample = itsSample;
      lots = itsLots;
      units = 0;
      left = 0;
      touched = 0;
      carried = 0;
      money.put(0);
      fees.put(0);
      misses.put(0);
      stood = false;
      unitsThen = 0;
      worthThen.put(0);
      for (int p = 0; p < PAPERS; p++) {
        shares[p].put(0);
        lent[p] = 0;
      }
    }

    int countHeld() {
      int all = 0;
      for (int p = 0; p < PAPERS; p++) {
        all += shares[p].length > 0 ? 1 : 0;
      }
      return all;
    }

    void putLent(Big to, int paper) {
      to.copy(shares[paper]);
      to.scale(lent[paper]);
      to.shrink(100);
    }
  }

  /** Lines up candidates, chooses members and weighs them. */
  private static final class Reviewer {
    private final long[] sizes = new long[PAPERS];
    private final int[] order = new int[PAPERS];
    private int candidates;
    private final boolean[] isChosen = new boolean[PAPERS];
    private int chosen;
    /** A holding is tops / bottoms, times one and the same number for all. */
    private final long[] tops = new long[PAPERS];
    private final long[] bottoms = new long[PAPERS];
    private final long[] kindSizes = new long[KINDS];
    private final Prices prices;
    private final Divider divider;
    private final Big now = new Big(WIDE_ROOM);
    private final Big then = new Big(WIDE_ROOM);
    private final Big upper = new Big(WIDE_ROOM);

    Reviewer(Prices thePrices, Divider theDivider) {
      prices = thePrices;
      divider = theDivider;
    }

    void line(Book book, Gauge gauge) {
      candidates = 0;
      for (int p = 0; p < book.papersKnown && p < PAPERS; p++) {
        sizes[p] = book.sizeOf(p);
        if (isCandidate(book, gauge, p)) {
          int at = candidates;
          for (; at > 0 && sizes[order[at - 1]] < sizes[p]; at--) {
            order[at] = order[at - 1];
          }
          order[at] = p;
          candidates++;
        }
      }
    }

    private static boolean isCandidate(Book book, Gauge gauge, int p) {
      Paper paper = book.papers[p];
      if (paper.isGone || (gauge.region != NONE && paper.kind != gauge.region)) {
        return false;
      }
      return !book.hasIndex(gauge.whole) || book.gauges[gauge.whole].isMember[p];
    }

    int rankOf(int paper) {
      for (int i = 0; i < candidates && i < PAPERS; i++) {
        if (order[i] == paper) {
          return i + 1;
        }
      }
      return NONE;
    }

    void judge(Book book, Gauge gauge) {
      line(book, gauge);
      if (candidates == 0) {
        gauge.verdict = NO_CANDIDATES;
        return;
      }
      choose(gauge);
      if (gauge.way == 2 && chosen * gauge.cap < 100) {
        gauge.verdict = CAP_TOO_LOW;
        return;
      }
      gauge.verdict = OK;
      if (gauge.first == NONE) {
        gauge.first = book.today;
        gauge.levels[book.today].put(FIRST_LEVEL);
      }
      enlist(book, gauge);
      switch (gauge.way) {
        case 0:
          weighBySize(gauge);
          break;
        case 1:
          weighAlike(book, gauge);
          break;
        case 2:
          weighCut(book, gauge);
          break;
        default:
          weighKinds(book, gauge);
          break;
      }
      fill(gauge);
    }

    private void choose(Gauge gauge) {
      chosen = 0;
      for (int p = 0; p < PAPERS; p++) {
        isChosen[p] = false;
      }
      for (int i = 0; i < candidates && i < gauge.wanted - gauge.buffer; i++) {
        pick(order[i]);
      }
      for (int i = 0; i < candidates && i < gauge.wanted + gauge.buffer; i++) {
        if (chosen < gauge.wanted && gauge.isMember[order[i]]) {
          pick(order[i]);
        }
      }
      for (int i = 0; i < candidates && chosen < gauge.wanted; i++) {
        pick(order[i]);
      }
    }

    private void pick(int paper) {
      if (!isChosen[paper]) {
        isChosen[paper] = true;
        chosen++;
      }
    }

    private void enlist(Book book, Gauge gauge) {
      gauge.dismiss();
      for (int p = 0; p < PAPERS; p++) {
        if (isChosen[p]) {
          gauge.isMember[p] = true;
          tops[p] = (long) book.papers[p].number * book.papers[p].percent;
          bottoms[p] = 1;
        }
      }
    }

    private void weighBySize(Gauge gauge) {
      long all = 0;
      for (int p = 0; p < PAPERS; p++) {
        all += isChosen[p] ? sizes[p] : 0;
      }
      for (int p = 0; p < PAPERS; p++) {
        if (isChosen[p]) {
          setWeight(gauge, p, sizes[p], all);
        }
      }
    }

    private void weighAlike(Book book, Gauge gauge) {
      for (int p = 0; p < PAPERS; p++) {
        if (isChosen[p]) {
          setWeight(gauge, p, 1, chosen);
          tops[p] = 1;
          bottoms[p] = book.priceNow(p);
        }
      }
    }

    private void weighCut(Book book, Gauge gauge) {
      long percent = 100;
      long rest = 0;
      boolean isNew = true;
      for (int round = 0; round <= PAPERS && isNew; round++) {
        percent = 100;
        rest = 0;
        for (int p = 0; p < PAPERS; p++) {
          percent -= gauge.isCapped[p] ? gauge.cap : 0;
          rest += isChosen[p] && !gauge.isCapped[p] ? sizes[p] : 0;
        }
        isNew = false;
        for (int p = 0; p < PAPERS; p++) {
          boolean isOpen = isChosen[p] && !gauge.isCapped[p];
          if (isOpen && percent * sizes[p] > gauge.cap * rest) {
            gauge.isCapped[p] = true;
            isNew = true;
          }
        }
      }
      for (int p = 0; p < PAPERS; p++) {
        if (gauge.isCapped[p]) {
          setWeight(gauge, p, gauge.cap, 100);
          tops[p] = gauge.cap;
          bottoms[p] = book.priceNow(p);
        } else if (isChosen[p]) {
          setWeight(gauge, p, percent * sizes[p], 100 * rest);
          tops[p] *= percent;
          bottoms[p] = rest;
        }
      }
    }

    private void weighKinds(Book book, Gauge gauge) {
      for (int k = 0; k < KINDS; k++) {
        kindSizes[k] = 0;
      }
      int kinds = 0;
      for (int p = 0; p < PAPERS; p++) {
        if (isChosen[p]) {
          int kind = book.papers[p].kind;
          kinds += kindSizes[kind] == 0 ? 1 : 0;
          kindSizes[kind] += sizes[p];
        }
      }
      for (int p = 0; p < PAPERS; p++) {
        if (isChosen[p]) {
          long all = kindSizes[book.papers[p].kind];
          setWeight(gauge, p, sizes[p], kinds * all);
          bottoms[p] = all;
        }
      }
    }

    private static void setWeight(Gauge gauge, int paper, long upper, long lower) {
      long common = gcd(upper, lower);
      if (common > 0) {
        gauge.weightUpper[paper] = upper / common;
        gauge.weightLower[paper] = lower / common;
      }
    }

    /** A basket of whole numbers: each top times the bottoms of the others, alike ones once. */
    private void fill(Gauge gauge) {
      gauge.basket.empty();
      gauge.basket.isInForce = true;
      for (int p = 0; p < PAPERS; p++) {
        if (isChosen[p]) {
          Big to = gauge.basket.shares[p];
          to.put(tops[p]);
          for (int q = 0; q < PAPERS; q++) {
            if (isChosen[q] && bottoms[q] != bottoms[p] && isFirstOfBottom(q)) {
              then.put(bottoms[q]);
              upper.product(to, then);
              to.copy(upper);
            }
          }
        }
      }
    }

    private boolean isFirstOfBottom(int paper) {
      for (int p = 0; p < paper; p++) {
        if (isChosen[p] && bottoms[p] == bottoms[paper]) {
          return false;
        }
      }
      return true;
    }

    /** Sets the level of a day by the one ahead; answers how many thousandths it is too low. */
    int chain(Gauge gauge, int day) {
      if (!isIn(day, 1, LAST_DAY)) {
        return 0;
      }
      gauge.basket.compare(now, then, prices, day);
      upper.product(gauge.levels[day - 1], now);
      upper.scale(2);
      upper.add(then, false);
      then.scale(2);
      divider.divide(upper, then);
      gauge.levels[day].copy(divider.quotient);
      // the rest is above the level by a half, since a half was added to round it
      upper.copy(divider.rest);
      upper.scale(1000);
      divider.divide(upper, then);
      return (int) divider.quotient.small() - 500;
    }
  }

  /** Reckons what funds are worth, what comes and goes with units, and what a trade would do. */
  private static final class Dealer {
    private final Prices prices;
    private final Divider divider;
    private final Big all = new Big(WIDE_ROOM);
    private final Big sum = new Big(WIDE_ROOM);
    private final Big piece = new Big(WIDE_ROOM);
    private final Big lower = new Big(WIDE_ROOM);
    private final Big[] values = new Big[PAPERS];
    private final boolean[] isPicked = new boolean[PAPERS];
    /** What a trade would leave of each paper. */
    final Big[] goals = new Big[PAPERS];

    Dealer(Prices thePrices, Divider theDivider) {
      prices = thePrices;
      divider = theDivider;
      for (int p = 0; p < PAPERS; p++) {
        values[p] = new Big(INDEX_ROOM);
        goals[p] = new Big(FUND_ROOM);
      }
    }

    void worth(Book book, Purse purse, Big to) {
      to.put(0);
      for (int p = 0; p < PAPERS; p++) {
        if (purse.shares[p].length > 0) {
          to.addTimes(purse.shares[p], prices.on(p, book.today));
        }
      }
      to.add(purse.money, false);
    }

    void addUnits(Book book, int fund, int n) {
      if (!book.hasFund(fund)) {
        return;
      }
      Purse purse = book.purses[fund];
      if (purse.units < 1) {
        sum.put(1000L * n);
        purse.money.add(sum, false);
        purse.units = n;
        return;
      }
      int rest = moveParts(book, purse, n, false);
      if (rest > 0) {
        sum.put(1);
        all.add(sum, false);
        purse.left += 1000 * (purse.units - rest) / purse.units;
      }
      purse.money.add(all, false);
      purse.units += n;
    }

    void dropUnits(Book book, int fund, int n) {
      if (n < 1 || !book.hasFund(fund) || book.purses[fund].units < n) {
        return;
      }
      Purse purse = book.purses[fund];
      int rest = moveParts(book, purse, n, true);
      purse.left += 1000 * rest / purse.units;
      purse.money.add(all, true);
      purse.units -= n;
    }

    /**
     * Moves of each paper the floor of the part that belongs to n units, and leaves in all the floor
     * of what their worth is more than that; answers the rest above this floor, by the units.
     */
    private int moveParts(Book book, Purse purse, int n, boolean isOff) {
      worth(book, purse, all);
      sum.put(0);
      for (int p = 0; p < PAPERS; p++) {
        if (purse.shares[p].length > 0) {
          piece.copy(purse.shares[p]);
          piece.scale(n);
          piece.shrink(purse.units);
          sum.addTimes(piece, prices.on(p, book.today));
          purse.shares[p].add(piece, isOff);
        }
      }
      all.scale(n);
      sum.scale(purse.units);
      all.add(sum, true);
      boolean below = all.isBelow;
      int rest = all.shrink(purse.units);
      if (!below || rest == 0) {
        return rest;
      }
      sum.put(1);
      all.add(sum, all.length > 0);
      all.isBelow = true;
      return purse.units - rest;
    }

    /** Needs a basket in force; leaves in goals what the fund would hold then. */
    void plan(Book book, Purse purse) {
      Basket basket = book.gauges[purse.follows].basket;
      for (int p = 0; p < PAPERS; p++) {
        goals[p].put(0);
        values[p].put(0);
        if (basket.shares[p].length > 0) {
          values[p].addTimes(basket.shares[p], prices.on(p, book.today));
        }
      }
      worth(book, purse, all);
      if (all.side() <= 0) {
        return;
      }
      pickWorthiest(purse.sample == 0 ? PAPERS : purse.sample);
      sum.put(0);
      for (int p = 0; p < PAPERS; p++) {
        if (isPicked[p]) {
          sum.add(values[p], false);
        }
      }
      sum.scale(purse.lots);
      for (int p = 0; p < PAPERS; p++) {
        if (isPicked[p]) {
          piece.product(all, basket.shares[p]);
          divider.divide(piece, sum);
          goals[p].copy(divider.quotient);
          goals[p].scale(purse.lots);
        }
      }
    }

    private void pickWorthiest(int most) {
      for (int p = 0; p < PAPERS; p++) {
        isPicked[p] = false;
      }
      for (int n = 0; n < most && n < PAPERS; n++) {
        int best = NONE;
        for (int p = 0; p < PAPERS; p++) {
          boolean isOpen = !isPicked[p] && values[p].length > 0;
          if (isOpen && (best == NONE || values[p].compareSize(values[best]) > 0)) {
            best = p;
          }
        }
        if (best != NONE) {
          isPicked[best] = true;
        }
      }
    }

    /** Does what was planned. */
    void settle(Book book, Purse purse) {
      worth(book, purse, all);
      int touched = 0;
      sum.put(0);
      for (int p = 0; p < PAPERS; p++) {
        touched += goals[p].compareSize(purse.shares[p]) == 0 ? 0 : 1;
        purse.shares[p].copy(goals[p]);
        if (goals[p].length > 0) {
          sum.addTimes(goals[p], prices.on(p, book.today));
        }
      }
      all.add(sum, true);
      purse.money.copy(all);
      purse.touched = touched;
    }

    void chargeFee(Book book, Purse purse) {
      worth(book, purse, all);
      if (all.side() <= 0) {
        return;
      }
      all.scale(purse.fee);
      sum.put(purse.carried);
      all.add(sum, false);
      purse.carried = all.shrink(YEAR);
      purse.fees.add(all, false);
      purse.money.add(all, true);
    }

    /**
     * Notes how the fund stands at the end of a day; answers whether it stood at the end of the day
     * ahead, too, and leaves what it was worth then in sum, what it is worth now in all.
     */
    boolean standsAgain(Book book, Purse purse) {
      Gauge gauge = book.gauges[purse.follows];
      int day = book.today;
      boolean stood = purse.stood && day > 0;
      worth(book, purse, all);
      boolean stands = purse.units > 0 && all.side() > 0 && gauge.hasLevel(day, day);
      purse.stood = stands && gauge.levels[day].length > 0;
      sum.copy(purse.worthThen);
      purse.worthThen.copy(all);
      return purse.stood && stood;
    }

    /** Compares the fund with its index, from the end of the day ahead to the end of this one. */
    void addMiss(Book book, Purse purse) {
      Gauge gauge = book.gauges[purse.follows];
      int day = book.today;
      if (!isIn(day, 1, LAST_DAY)) {
        return;
      }
      Big levelThen = gauge.levels[day - 1];
      Big levelNow = gauge.levels[day];
      all.scale(purse.unitsThen);
      sum.scale(purse.units);
      piece.product(all, levelThen);
      lower.product(sum, levelNow);
      piece.add(lower, true);
      piece.scale(1000000);
      lower.product(sum, levelThen);
      boolean below = piece.isBelow;
      divider.divide(piece, lower);
      piece.copy(divider.quotient);
      all.put(below && divider.rest.length > 0 ? 1 : 0);
      piece.add(all, false);
      all.product(piece, piece);
      purse.misses.add(all, false);
    }
  }

  /** All that comes of the deeds. */
  private static final class Book {
    private final Prices prices;
    private final Reviewer reviewer;
    private final Dealer dealer;
    int today;
    int papersKnown;
    int indexesKnown;
    int fundsKnown;
    final Paper[] papers = new Paper[PAPERS];
    final Gauge[] gauges = new Gauge[INDEXES];
    final Purse[] purses = new Purse[FUNDS];
    /** What all funds took of the last payment. */
    final Big taken = new Big(FUND_ROOM);
    private final Big fresh = new Big(FUND_ROOM);
    private final Big coins = new Big(FUND_ROOM);

    Book(Prices thePrices, Reviewer theReviewer, Dealer theDealer) {
      prices = thePrices;
      reviewer = theReviewer;
      dealer = theDealer;
      for (int p = 0; p < PAPERS; p++) {
        papers[p] = new Paper();
      }
      for (int i = 0; i < INDEXES; i++) {
        gauges[i] = new Gauge();
      }
      for (int f = 0; f < FUNDS; f++) {
        purses[f] = new Purse();
      }
    }

    void reset() {
      today = 0;
      papersKnown = 0;
      indexesKnown = 0;
      fundsKnown = 0;
    }

    boolean hasPaper(int paper) {
      return paper >= 0 && paper < papersKnown && paper < PAPERS;
    }

    boolean hasIndex(int index) {
      return index >= 0 && index < indexesKnown && index < INDEXES;
    }

    boolean hasFund(int fund) {
      return fund >= 0 && fund < fundsKnown && fund < FUNDS;
    }

    int priceNow(int paper) {
      return prices.on(paper, today);
    }

    long sizeOf(int paper) {
      Paper it = papers[paper];
      return (long) it.number * it.percent * prices.on(paper, today);
    }

    int countMemberships(int paper) {
      int all = 0;
      for (int i = 0; i < indexesKnown; i++) {
        all += gauges[i].isMember[paper] ? 1 : 0;
      }
      return all;
    }

    int countDue() {
      int all = 0;
      for (int i = 0; i < indexesKnown; i++) {
        all += gauges[i].isDue ? 1 : 0;
      }
      return all;
    }

    int countGone() {
      int all = 0;
      for (int p = 0; p < papersKnown; p++) {
        all += papers[p].isGone ? 1 : 0;
      }
      return all;
    }

    /** The level of today becomes what it would be if today ended now. */
    void settleToday() {
      for (int i = 0; i < indexesKnown; i++) {
        if (gauges[i].basket.isInForce) {
          reviewer.chain(gauges[i], today);
        }
      }
    }

    /** Does deeds of a list of rows, one behind the other. */
    void perform(int[] deeds, int from, int to) {
      for (int row = from; row >= 0 && row < to && row < DEEDS && row * ROW + ROW <= deeds.length; row++) {
        int at = row * ROW;
        int a = deeds[at + 1];
        int b = deeds[at + 2];
        int c = deeds[at + 3];
        int d = deeds[at + 4];
        switch (deeds[at]) {
          case PAPER: addPaper(a, b, c); break;
          case COUNT: setCount(a, b); break;
          case FREE: setFree(a, b); break;
          case SPLIT: splitPaper(a, b, c); break;
          case PAYMENT: payOut(a, b); break;
          case RIGHTS: giveRights(a, b, c, d); break;
          case SPIN: spinOff(a, b, c); break;
          case MERGER: mergePapers(a, b, c, d); break;
          case NEXT: endDay(); break;
          case INDEX: addIndex(a, b, c, d, deeds[at + 5], deeds[at + 6] == 1); break;
          case TAX: setTax(a, b); break;
          case PART: setWhole(a, b); break;
          case REVIEW: setDue(a); break;
          case FUND: addFund(a, b, c, d); break;
          case MAKE: dealer.addUnits(this, a, b); break;
          case TAKE: dealer.dropUnits(this, a, b); break;
          case TRADE: tradeFund(a); break;
          case LEND: setLent(a, b, c); break;
          default: break;
        }
      }
    }

    private void addPaper(int count, int free, int kind) {
      if (papersKnown < PAPERS) {
        papers[papersKnown].open(count, free, kind, today);
        papersKnown++;
      }
    }

    private void setCount(int paper, int count) {
      if (hasPaper(paper)) {
        papers[paper].setNumber(count);
      }
    }

    private void setFree(int paper, int free) {
      if (hasPaper(paper)) {
        papers[paper].percent = free;
      }
    }

    private void splitPaper(int paper, int a, int b) {
      if (!hasPaper(paper) || b < 1) {
        return;
      }
      papers[paper].setNumber((long) papers[paper].number * a / b);
      for (int i = 0; i < indexesKnown; i++) {
        if (gauges[i].basket.has(paper)) {
          gauges[i].basket.turn(paper, a, b);
        }
      }
      for (int f = 0; f < fundsKnown; f++) {
        Purse purse = purses[f];
        purse.shares[paper].scale(a);
        int rest = purse.shares[paper].shrink(b);
        coins.put((long) rest * priceNow(paper) / b);
        purse.money.add(coins, false);
      }
    }

    private void payOut(int paper, int each) {
      taken.put(0);
      if (!hasPaper(paper)) {
        return;
      }
      for (int i = 0; i < indexesKnown; i++) {
        if (gauges[i].isBack && gauges[i].basket.has(paper)) {
          gauges[i].basket.receive(paper, each * (100 - gauges[i].tax));
        }
      }
      for (int f = 0; f < fundsKnown; f++) {
        coins.copy(purses[f].shares[paper]);
        coins.scale(each * (100 - gauges[purses[f].follows].tax));
        coins.shrink(100);
        purses[f].money.add(coins, false);
        taken.add(coins, false);
      }
    }

    private void giveRights(int paper, int a, int b, int price) {
      if (!hasPaper(paper) || b < 1) {
        return;
      }
      papers[paper].setNumber((long) papers[paper].number * (a + b) / b);
      for (int i = 0; i < indexesKnown; i++) {
        if (gauges[i].basket.has(paper)) {
          gauges[i].basket.enlarge(paper, a, b, price);
        }
      }
      for (int f = 0; f < fundsKnown; f++) {
        Purse purse = purses[f];
        fresh.copy(purse.shares[paper]);
        fresh.scale(a);
        fresh.shrink(b);
        purse.shares[paper].add(fresh, false);
        fresh.scale(price);
        purse.money.add(fresh, true);
      }
    }

    private void spinOff(int paper, int a, int b) {
      if (!hasPaper(paper) || papersKnown >= PAPERS || b < 1) {
        return;
      }
      Paper old = papers[paper];
      int born = papersKnown;
      addPaper(1, old.percent, old.kind);
      papers[born].setNumber((long) old.number * a / b);
      for (int i = 0; i < indexesKnown; i++) {
        if (gauges[i].basket.has(paper)) {
          gauges[i].basket.branch(paper, born, a, b);
        }
      }
      for (int f = 0; f < fundsKnown; f++) {
        addShares(purses[f], paper, born, a, b);
      }
    }

    private void mergePapers(int paper, int into, int a, int b) {
      if (!hasPaper(paper) || !hasPaper(into) || b < 1) {
        return;
      }
      papers[paper].isGone = true;
      papers[into].setNumber(papers[into].number + (long) papers[paper].number * a / b);
      for (int i = 0; i < indexesKnown; i++) {
        if (gauges[i].basket.has(paper)) {
          gauges[i].basket.absorb(paper, into, a, b);
        }
      }
      for (int f = 0; f < fundsKnown; f++) {
        addShares(purses[f], paper, into, a, b);
        purses[f].shares[paper].put(0);
      }
    }

    /** A fund gets whole shares of another paper for those that it has, and money for the rest. */
    private void addShares(Purse purse, int paper, int to, int a, int b) {
      fresh.copy(purse.shares[paper]);
      fresh.scale(a);
      int rest = fresh.shrink(b);
      purse.shares[to].add(fresh, false);
      coins.put((long) rest * priceNow(to) / b);
      purse.money.add(coins, false);
    }

    private void addIndex(int way, int wanted, int buffer, int cap, int region, boolean isBack) {
      if (indexesKnown < INDEXES) {
        gauges[indexesKnown].open(way, wanted, buffer, cap, region, isBack);
        indexesKnown++;
      }
    }

    private void setTax(int index, int percent) {
      if (hasIndex(index)) {
        gauges[index].tax = percent;
      }
    }

    private void setWhole(int index, int whole) {
      if (hasIndex(index)) {
        gauges[index].whole = whole;
      }
    }

    private void setDue(int index) {
      if (hasIndex(index)) {
        gauges[index].isDue = true;
      }
    }

    private void addFund(int index, int fee, int sample, int lots) {
      if (fundsKnown < FUNDS && hasIndex(index)) {
        purses[fundsKnown].open(index, fee, sample, lots);
        fundsKnown++;
      }
    }

    private void tradeFund(int fund) {
      if (hasFund(fund) && gauges[purses[fund].follows].basket.isInForce) {
        dealer.plan(this, purses[fund]);
        dealer.settle(this, purses[fund]);
      }
    }

    private void setLent(int fund, int paper, int percent) {
      if (hasFund(fund) && hasPaper(paper)) {
        purses[fund].lent[paper] = percent;
      }
    }

    private void endDay() {
      if (today >= LAST_DAY) {
        return;
      }
      for (int i = 0; i < indexesKnown; i++) {
        if (gauges[i].basket.isInForce) {
          gauges[i].drift += reviewer.chain(gauges[i], today);
        }
      }
      for (int f = 0; f < fundsKnown; f++) {
        dealer.chargeFee(this, purses[f]);
      }
      for (int i = 0; i < indexesKnown; i++) {
        if (gauges[i].isDue) {
          gauges[i].isDue = false;
          reviewer.judge(this, gauges[i]);
        }
      }
      // the day of a first review has its level only behind the review
      for (int f = 0; f < fundsKnown; f++) {
        if (dealer.standsAgain(this, purses[f])) {
          dealer.addMiss(this, purses[f]);
        }
        purses[f].unitsThen = purses[f].units;
      }
      for (int i = 0; i < indexesKnown; i++) {
        if (gauges[i].basket.isInForce) {
          gauges[i].basket.startDay(prices, today);
        }
      }
      today++;
    }
  }
}
