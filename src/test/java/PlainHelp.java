import java.math.BigInteger;
import java.util.ArrayList;
import java.util.Arrays;
import java.util.List;

/**
 * The document once more, in its plainest form: exact fractions, and every answer reckoned anew
 * from the first deed. It serves to compare answers of random runs with.
 */
public final class PlainHelp {
  /** An exact fraction in lowest terms. */
  static final class Part implements Comparable<Part> {
    static final Part ZERO = of(0);
    final BigInteger up;
    final BigInteger low;

    Part(BigInteger a, BigInteger b) {
      BigInteger g = a.gcd(b);
      if (b.signum() < 0) {
        g = g.negate();
      }
      up = a.divide(g);
      low = b.divide(g);
    }

    static Part of(long n) {
      return new Part(BigInteger.valueOf(n), BigInteger.ONE);
    }

    static Part of(BigInteger n) {
      return new Part(n, BigInteger.ONE);
    }

    Part plus(Part o) {
      return new Part(up.multiply(o.low).add(o.up.multiply(low)), low.multiply(o.low));
    }

    Part minus(Part o) {
      return plus(new Part(o.up.negate(), o.low));
    }

    Part times(Part o) {
      return new Part(up.multiply(o.up), low.multiply(o.low));
    }

    Part times(long n) {
      return times(of(n));
    }

    Part over(Part o) {
      return new Part(up.multiply(o.low), low.multiply(o.up));
    }

    Part over(long n) {
      return over(of(n));
    }

    BigInteger floor() {
      BigInteger[] both = up.divideAndRemainder(low);
      return both[1].signum() < 0 ? both[0].subtract(BigInteger.ONE) : both[0];
    }

    BigInteger ceiling() {
      return new Part(up.negate(), low).floor().negate();
    }

    int sign() {
      return up.signum();
    }

    @Override
    public int compareTo(Part o) {
      return up.multiply(o.low).compareTo(o.up.multiply(low));
    }

    @Override
    public String toString() {
      return up + "/" + low;
    }
  }

  static final class Stock {
    int kind;
    long count;
    int free;
    int came;
    boolean gone;
  }

  static final class Gauge {
    int way;
    int wanted;
    int buffer;
    int cap;
    int region;
    boolean back;
    int tax;
    int whole = -1;
    boolean due;
    String why = "-";
    int first = -1;
    long drift;
    BigInteger[] level = new BigInteger[41];
    List<Integer> members = new ArrayList<>();
    Part[] weight = new Part[10];
    boolean[] cut = new boolean[10];
    Part[] holding;
    Part worthThen;
    Part paidIn = Part.ZERO;
    Part backed = Part.ZERO;
  }

  static final class Purse {
    int index;
    int fee;
    int sample;
    int lots;
    int units;
    BigInteger money = BigInteger.ZERO;
    BigInteger[] holding = new BigInteger[10];
    BigInteger fees = BigInteger.ZERO;
    int[] lent = new int[10];
    long left;
    int touched;
    long carried;
    BigInteger error = BigInteger.ZERO;
    Part[] unitAtEnd = new Part[41];
    BigInteger[] levelAtEnd = new BigInteger[41];
  }

  static final class World {
    int today;
    List<Stock> stocks = new ArrayList<>();
    List<Gauge> gauges = new ArrayList<>();
    List<Purse> purses = new ArrayList<>();
    BigInteger taken = BigInteger.ZERO;
  }

  private final List<int[]> deeds = new ArrayList<>();
  private final List<String> moves = new ArrayList<>();
  private final int[][] told = new int[10][41];
  private World world = new World();
  private int steps;
  private int knocks;

  // ---- prices

  private void collectPrices() {
    for (int[] row : told) {
      Arrays.fill(row, 0);
    }
    int stocks = 0;
    int day = 0;
    for (int[] d : deeds) {
      if (d[0] == 'p') {
        told[stocks++][day] = d[4];
      } else if (d[0] == 's') {
        told[stocks++][day] = d[4];
      } else if (d[0] == 'P') {
        told[d[1]][d[2]] = d[3];
      } else if (d[0] == 'n') {
        day++;
      }
    }
  }

  private int priceAt(int stock, int day) {
    int price = -1;
    for (int d = 0; d <= day; d++) {
      price = told[stock][d] > 0 ? told[stock][d] : price;
    }
    return price;
  }

  private int now(World w, int stock) {
    return priceAt(stock, w.today);
  }

  private long sizeOf(World w, int stock) {
    Stock s = w.stocks.get(stock);
    return s.count * s.free * now(w, stock);
  }

  // ---- doing

  private static long bounded(BigInteger n) {
    return n.max(BigInteger.ONE).min(BigInteger.valueOf(999999999)).longValueExact();
  }

  private static long bounded(Part p) {
    return bounded(p.floor());
  }

  private World redo() {
    collectPrices();
    World w = new World();
    for (int[] d : deeds) {
      act(w, d);
    }
    return w;
  }

  private void act(World w, int[] d) {
    switch (d[0]) {
      case 'p' -> open(w, d[1], d[2], d[3]);
      case 'c' -> w.stocks.get(d[1]).count = d[2];
      case 'f' -> w.stocks.get(d[1]).free = d[2];
      case '/' -> actSplit(w, d[1], new Part(BigInteger.valueOf(d[2]), BigInteger.valueOf(d[3])));
      case '$' -> actPay(w, d[1], d[2]);
      case 'r' -> actRights(w, d[1], d[2], d[3], d[4]);
      case 's' -> actSpin(w, d[1], new Part(BigInteger.valueOf(d[2]), BigInteger.valueOf(d[3])));
      case 'm' -> actMerge(w, d[1], d[2], new Part(BigInteger.valueOf(d[3]), BigInteger.valueOf(d[4])));
      case 'n' -> actEnd(w);
      case 'i' -> actIndex(w, d);
      case 't' -> w.gauges.get(d[1]).tax = d[2];
      case 'w' -> w.gauges.get(d[1]).whole = d[2];
      case 'v' -> w.gauges.get(d[1]).due = true;
      case 'F' -> actFund(w, d);
      case 'M' -> actMake(w, w.purses.get(d[1]), d[2]);
      case 'T' -> actTake(w, w.purses.get(d[1]), d[2]);
      case 'X' -> actTrade(w, w.purses.get(d[1]));
      case 'L' -> w.purses.get(d[1]).lent[d[2]] = d[3];
      default -> { }
    }
  }

  private void open(World w, long count, int free, int kind) {
    Stock s = new Stock();
    s.count = count;
    s.free = free;
    s.kind = kind;
    s.came = w.today;
    w.stocks.add(s);
  }

  private void actSplit(World w, int p, Part ratio) {
    Stock s = w.stocks.get(p);
    s.count = bounded(ratio.times(s.count));
    for (Gauge g : w.gauges) {
      if (g.holding != null) {
        g.holding[p] = g.holding[p].times(ratio);
      }
    }
    for (Purse f : w.purses) {
      Part exact = Part.of(f.holding[p]).times(ratio);
      f.holding[p] = exact.floor();
      Part rest = exact.minus(Part.of(f.holding[p]));
      f.money = f.money.add(rest.times(now(w, p)).floor());
    }
  }

  private void actPay(World w, int p, int coins) {
    w.taken = BigInteger.ZERO;
    for (Gauge g : w.gauges) {
      if (g.holding != null && g.back) {
        g.backed = g.backed.plus(g.holding[p].times(coins).times(100 - g.tax).over(100));
      }
    }
    for (Purse f : w.purses) {
      int tax = w.gauges.get(f.index).tax;
      BigInteger sum = Part.of(f.holding[p]).times(coins).times(100 - tax).over(100).floor();
      f.money = f.money.add(sum);
      w.taken = w.taken.add(sum);
    }
  }

  private void actRights(World w, int p, int a, int b, int price) {
    Stock s = w.stocks.get(p);
    s.count = bounded(Part.of(s.count).times(a + b).over(b));
    for (Gauge g : w.gauges) {
      if (g.holding != null) {
        g.paidIn = g.paidIn.plus(g.holding[p].times(a).over(b).times(price));
        g.holding[p] = g.holding[p].times(a + b).over(b);
      }
    }
    for (Purse f : w.purses) {
      BigInteger more = Part.of(f.holding[p]).times(a).over(b).floor();
      f.holding[p] = f.holding[p].add(more);
      f.money = f.money.subtract(more.multiply(BigInteger.valueOf(price)));
    }
  }

  private void actSpin(World w, int p, Part ratio) {
    Stock s = w.stocks.get(p);
    int born = w.stocks.size();
    open(w, bounded(ratio.times(s.count)), s.free, s.kind);
    for (Gauge g : w.gauges) {
      if (g.holding != null) {
        g.holding[born] = g.holding[p].times(ratio);
      }
    }
    for (Purse f : w.purses) {
      bring(w, f, p, born, ratio);
    }
  }

  private void bring(World w, Purse f, int from, int to, Part ratio) {
    Part exact = Part.of(f.holding[from]).times(ratio);
    f.holding[to] = f.holding[to].add(exact.floor());
    Part rest = exact.minus(Part.of(exact.floor()));
    f.money = f.money.add(rest.times(now(w, to)).floor());
  }

  private void actMerge(World w, int x, int y, Part ratio) {
    Stock s = w.stocks.get(x);
    Stock t = w.stocks.get(y);
    s.gone = true;
    t.count = bounded(ratio.times(s.count).floor().add(BigInteger.valueOf(t.count)));
    for (Gauge g : w.gauges) {
      if (g.holding != null) {
        g.holding[y] = g.holding[y].plus(g.holding[x].times(ratio));
        g.holding[x] = Part.ZERO;
      }
    }
    for (Purse f : w.purses) {
      bring(w, f, x, y, ratio);
      f.holding[x] = BigInteger.ZERO;
    }
  }

  private void actIndex(World w, int[] d) {
    Gauge g = new Gauge();
    g.way = d[1];
    g.wanted = d[2];
    g.buffer = d[3];
    g.cap = d[4];
    g.region = d[5];
    g.back = d[6] == 1;
    Arrays.fill(g.weight, Part.ZERO);
    w.gauges.add(g);
  }

  private void actFund(World w, int[] d) {
    Purse f = new Purse();
    f.index = d[1];
    f.fee = d[2];
    f.sample = d[3];
    f.lots = d[4];
    Arrays.fill(f.holding, BigInteger.ZERO);
    w.purses.add(f);
  }

  private BigInteger worth(World w, Purse f) {
    BigInteger sum = f.money;
    for (int p = 0; p < w.stocks.size(); p++) {
      sum = sum.add(f.holding[p].multiply(BigInteger.valueOf(now(w, p))));
    }
    return sum;
  }

  private void actMake(World w, Purse f, int n) {
    if (f.units == 0) {
      f.money = f.money.add(BigInteger.valueOf(1000L * n));
    } else {
      Part share = Part.of(worth(w, f)).times(n).over(f.units);
      for (int p = 0; p < w.stocks.size(); p++) {
        BigInteger comes = Part.of(f.holding[p]).times(n).over(f.units).floor();
        share = share.minus(Part.of(comes).times(now(w, p)));
        f.holding[p] = f.holding[p].add(comes);
      }
      f.money = f.money.add(share.ceiling());
      f.left += Part.of(share.ceiling()).minus(share).times(1000).floor().longValueExact();
    }
    f.units += n;
  }

  private void actTake(World w, Purse f, int n) {
    Part share = Part.of(worth(w, f)).times(n).over(f.units);
    for (int p = 0; p < w.stocks.size(); p++) {
      BigInteger goes = Part.of(f.holding[p]).times(n).over(f.units).floor();
      share = share.minus(Part.of(goes).times(now(w, p)));
      f.holding[p] = f.holding[p].subtract(goes);
    }
    f.money = f.money.subtract(share.floor());
    f.left += share.minus(Part.of(share.floor())).times(1000).floor().longValueExact();
    f.units -= n;
  }

  /** What the fund would hold behind a trade; null without a basket. */
  private BigInteger[] goals(World w, Purse f) {
    Gauge g = w.gauges.get(f.index);
    if (g.holding == null) {
      return null;
    }
    List<Integer> held = new ArrayList<>();
    for (int p = 0; p < w.stocks.size(); p++) {
      if (g.holding[p].sign() > 0) {
        held.add(p);
      }
    }
    held.sort((x, y) -> {
      int by = g.holding[y].times(now(w, y)).compareTo(g.holding[x].times(now(w, x)));
      return by != 0 ? by : Integer.compare(x, y);
    });
    if (f.sample > 0 && held.size() > f.sample) {
      held = held.subList(0, f.sample);
    }
    Part together = Part.ZERO;
    for (int p : held) {
      together = together.plus(g.holding[p].times(now(w, p)));
    }
    BigInteger[] to = new BigInteger[10];
    Arrays.fill(to, BigInteger.ZERO);
    BigInteger all = worth(w, f);
    for (int p : held) {
      if (all.signum() > 0) {
        Part exact = Part.of(all).times(g.holding[p]).over(together).over(f.lots);
        to[p] = exact.floor().multiply(BigInteger.valueOf(f.lots));
      }
    }
    return to;
  }

  private void actTrade(World w, Purse f) {
    BigInteger[] to = goals(w, f);
    if (to == null) {
      return;
    }
    BigInteger all = worth(w, f);
    f.touched = 0;
    for (int p = 0; p < w.stocks.size(); p++) {
      f.touched += to[p].equals(f.holding[p]) ? 0 : 1;
      all = all.subtract(to[p].multiply(BigInteger.valueOf(now(w, p))));
    }
    f.holding = to;
    f.money = all;
  }

  // ---- the end of a day

  private Part basketWorth(World w, Gauge g) {
    Part sum = Part.ZERO;
    for (int p = 0; p < w.stocks.size(); p++) {
      sum = sum.plus(g.holding[p].times(now(w, p)));
    }
    return sum;
  }

  /** What the level of today is exactly, in a form that can be rounded; null without a basket. */
  private Part exactLevel(World w, Gauge g) {
    if (g.holding == null) {
      return null;
    }
    Part is = basketWorth(w, g).plus(g.backed);
    Part was = g.worthThen.plus(g.paidIn);
    return Part.of(g.level[w.today - 1]).times(is).over(was);
  }

  private static BigInteger rounded(Part exact) {
    return exact.plus(Part.of(1).over(2)).floor();
  }

  private void actEnd(World w) {
    for (Gauge g : w.gauges) {
      Part exact = exactLevel(w, g);
      if (exact != null) {
        g.level[w.today] = rounded(exact);
        g.drift += exact.minus(Part.of(g.level[w.today])).times(1000).floor().longValueExact();
      }
    }
    for (Purse f : w.purses) {
      BigInteger all = worth(w, f);
      if (all.signum() >= 0) {
        BigInteger sum = all.multiply(BigInteger.valueOf(f.fee)).add(BigInteger.valueOf(f.carried));
        BigInteger off = sum.divide(BigInteger.valueOf(3650000));
        f.carried = sum.mod(BigInteger.valueOf(3650000)).longValueExact();
        f.money = f.money.subtract(off);
        f.fees = f.fees.add(off);
      }
    }
    for (Gauge g : w.gauges) {
      if (g.due) {
        g.due = false;
        actReview(w, g);
      }
    }
    for (Purse f : w.purses) {
      noteError(w, f);
    }
    for (Gauge g : w.gauges) {
      if (g.holding != null) {
        g.worthThen = basketWorth(w, g);
        g.paidIn = Part.ZERO;
        g.backed = Part.ZERO;
      }
    }
    w.today++;
  }

  private void noteError(World w, Purse f) {
    BigInteger level = w.gauges.get(f.index).level[w.today];
    BigInteger all = worth(w, f);
    if (f.units == 0 || all.signum() <= 0 || level == null || level.signum() <= 0) {
      return;
    }
    f.unitAtEnd[w.today] = Part.of(all).over(f.units);
    f.levelAtEnd[w.today] = level;
    if (w.today > 0 && f.unitAtEnd[w.today - 1] != null) {
      Part one = f.unitAtEnd[w.today].over(f.unitAtEnd[w.today - 1]);
      Part two = Part.of(level).over(Part.of(f.levelAtEnd[w.today - 1]));
      BigInteger m = one.minus(two).times(1000000).floor();
      f.error = f.error.add(m.multiply(m));
    }
  }

  private List<Integer> candidates(World w, Gauge g) {
    List<Integer> all = new ArrayList<>();
    for (int p = 0; p < w.stocks.size(); p++) {
      Stock s = w.stocks.get(p);
      boolean is = !s.gone && (g.region == -1 || g.region == s.kind);
      is = is && (g.whole == -1 || w.gauges.get(g.whole).members.contains(p));
      if (is) {
        all.add(p);
      }
    }
    all.sort((x, y) -> {
      int by = Long.compare(sizeOf(w, y), sizeOf(w, x));
      return by != 0 ? by : Integer.compare(x, y);
    });
    return all;
  }

  private void actReview(World w, Gauge g) {
    List<Integer> all = candidates(w, g);
    if (all.isEmpty()) {
      g.why = "none";
      return;
    }
    List<Integer> chosen = new ArrayList<>();
    for (int rank = 1; rank <= all.size(); rank++) {
      if (rank <= g.wanted - g.buffer) {
        chosen.add(all.get(rank - 1));
      }
    }
    for (int rank = 1; rank <= all.size() && rank <= g.wanted + g.buffer; rank++) {
      int p = all.get(rank - 1);
      if (chosen.size() < g.wanted && g.members.contains(p) && !chosen.contains(p)) {
        chosen.add(p);
      }
    }
    for (int p : all) {
      if (chosen.size() < g.wanted && !chosen.contains(p)) {
        chosen.add(p);
      }
    }
    if (g.way == 2 && chosen.size() * g.cap < 100) {
      g.why = "cap";
      return;
    }
    g.why = "ok";
    chosen.sort(Integer::compare);
    g.members = chosen;
    if (g.first == -1) {
      g.first = w.today;
      g.level[w.today] = BigInteger.valueOf(1000000);
    }
    weigh(w, g);
    g.holding = new Part[10];
    Arrays.fill(g.holding, Part.ZERO);
    for (int p : chosen) {
      g.holding[p] = g.weight[p].over(now(w, p));
    }
  }

  private void weigh(World w, Gauge g) {
    Arrays.fill(g.weight, Part.ZERO);
    Arrays.fill(g.cut, false);
    if (g.way == 0) {
      parcel(w, g, g.members, Part.of(1));
    } else if (g.way == 1) {
      for (int p : g.members) {
        g.weight[p] = Part.of(1).over(g.members.size());
      }
    } else if (g.way == 2) {
      weighCut(w, g);
    } else {
      List<Integer> kinds = new ArrayList<>();
      for (int p : g.members) {
        if (!kinds.contains(w.stocks.get(p).kind)) {
          kinds.add(w.stocks.get(p).kind);
        }
      }
      for (int k : kinds) {
        List<Integer> of = new ArrayList<>();
        for (int p : g.members) {
          if (w.stocks.get(p).kind == k) {
            of.add(p);
          }
        }
        parcel(w, g, of, Part.of(1).over(kinds.size()));
      }
    }
  }

  private void parcel(World w, Gauge g, List<Integer> of, Part what) {
    long all = 0;
    for (int p : of) {
      all += sizeOf(w, p);
    }
    for (int p : of) {
      g.weight[p] = what.times(sizeOf(w, p)).over(all);
    }
  }

  private void weighCut(World w, Gauge g) {
    Part cap = Part.of(g.cap).over(100);
    List<Integer> open = new ArrayList<>(g.members);
    Part rest = Part.of(1);
    parcel(w, g, open, rest);
    while (true) {
      List<Integer> above = new ArrayList<>();
      for (int p : open) {
        if (g.weight[p].compareTo(cap) > 0) {
          above.add(p);
        }
      }
      if (above.isEmpty()) {
        return;
      }
      for (int p : above) {
        g.weight[p] = cap;
        g.cut[p] = true;
        rest = rest.minus(cap);
      }
      open.removeAll(above);
      parcel(w, g, open, rest);
    }
  }

  // ---- the face

  private void stock(int p) {
    if (p < 0 || p >= world.stocks.size()) {
      throw new IndexOutOfBoundsException();
    }
  }

  private Gauge gauge(int i) {
    if (i < 0 || i >= world.gauges.size()) {
      throw new IndexOutOfBoundsException();
    }
    return world.gauges.get(i);
  }

  private Purse purse(int f) {
    if (f < 0 || f >= world.purses.size()) {
      throw new IndexOutOfBoundsException();
    }
    return world.purses.get(f);
  }

  private static void bounds(int value, int least, int most) {
    if (value < least || value > most) {
      throw new IllegalArgumentException();
    }
  }

  private void there(int p) {
    if (world.stocks.get(p).gone) {
      throw new IllegalStateException();
    }
  }

  private void room(int is, int most) {
    if (is >= most) {
      throw new IllegalStateException();
    }
  }

  private void change(int... deed) {
    deeds.add(deed);
    moves.add(null);
    steps = Math.min(8, steps + 1);
    world = redo();
  }

  public int paper(int count, int free, int kind, int price) {
    bounds(count, 1, 99999);
    bounds(free, 1, 100);
    bounds(kind, 0, 3);
    bounds(price, 1, 99999);
    room(world.stocks.size(), 10);
    change('p', count, free, kind, price);
    return world.stocks.size() - 1;
  }

  public int price(int paper, int day, int price) {
    stock(paper);
    bounds(day, world.stocks.get(paper).came, world.today);
    bounds(price, 1, 99999);
    List<String> before = allLevels();
    change('P', paper, day, price);
    List<String> after = allLevels();
    StringBuilder all = new StringBuilder();
    int n = 0;
    for (int i = 0; i < before.size(); i++) {
      if (!before.get(i).equals(after.get(i))) {
        n++;
        int days = world.today + 1;
        all.append(all.length() > 0 ? " " : "").append(i / days).append(":").append(i % days);
      }
    }
    moves.set(moves.size() - 1, all.toString());
    return n;
  }

  private List<String> allLevels() {
    List<String> all = new ArrayList<>();
    for (int i = 0; i < world.gauges.size(); i++) {
      for (int day = 0; day <= world.today; day++) {
        all.add(level(i, day));
      }
    }
    return all;
  }

  public int count(int paper, int count) {
    stock(paper);
    bounds(count, 1, 99999);
    there(paper);
    int before = (int) world.stocks.get(paper).count;
    change('c', paper, count);
    return before;
  }

  public int free(int paper, int free) {
    stock(paper);
    bounds(free, 1, 100);
    there(paper);
    int before = world.stocks.get(paper).free;
    change('f', paper, free);
    return before;
  }

  public int split(int paper, int a, int b) {
    stock(paper);
    bounds(a, 1, 20);
    bounds(b, 1, 20);
    there(paper);
    change('/', paper, a, b);
    return (int) world.stocks.get(paper).count;
  }

  public String pay(int paper, int coins) {
    stock(paper);
    bounds(coins, 1, 99999);
    there(paper);
    change('$', paper, coins);
    return world.taken.toString();
  }

  public int rights(int paper, int a, int b, int price) {
    stock(paper);
    bounds(a, 1, 20);
    bounds(b, 1, 20);
    bounds(price, 1, 99999);
    there(paper);
    change('r', paper, a, b, price);
    return (int) world.stocks.get(paper).count;
  }

  public int spin(int paper, int a, int b, int price) {
    stock(paper);
    bounds(a, 1, 20);
    bounds(b, 1, 20);
    bounds(price, 1, 99999);
    there(paper);
    room(world.stocks.size(), 10);
    change('s', paper, a, b, price);
    return world.stocks.size() - 1;
  }

  public int merge(int paper, int into, int a, int b) {
    stock(paper);
    stock(into);
    bounds(paper == into ? 0 : 1, 1, 1);
    bounds(a, 1, 20);
    bounds(b, 1, 20);
    there(paper);
    there(into);
    change('m', paper, into, a, b);
    return (int) world.stocks.get(into).count;
  }

  public int next() {
    room(world.today, 40);
    change('n');
    return world.today;
  }

  public int index(int way, int wanted, int buffer, int cap, int region, boolean isBack) {
    bounds(way, 0, 3);
    bounds(wanted, 1, 8);
    bounds(buffer, 0, 3);
    bounds(cap, 10, 100);
    bounds(region, -1, 3);
    room(world.gauges.size(), 4);
    change('i', way, wanted, buffer, cap, region, isBack ? 1 : 0);
    return world.gauges.size() - 1;
  }

  public int tax(int index, int percent) {
    int before = gauge(index).tax;
    bounds(percent, 0, 100);
    change('t', index, percent);
    return before;
  }

  public int part(int index, int whole) {
    int before = gauge(index).whole;
    bounds(whole, -1, index - 1);
    change('w', index, whole);
    return before;
  }

  public int review(int index) {
    gauge(index);
    change('v', index);
    return house(5);
  }

  public int fund(int index, int fee, int sample, int lots) {
    gauge(index);
    bounds(fee, 0, 999);
    bounds(sample, 0, 8);
    bounds(lots, 1, 100);
    room(world.purses.size(), 3);
    change('F', index, fee, sample, lots);
    return world.purses.size() - 1;
  }

  public int make(int fund, int units) {
    Purse f = purse(fund);
    bounds(units, 1, 9999);
    if (f.units > 0 && worth(world, f).signum() <= 0 || f.units + units > 99999) {
      return -9;
    }
    change('M', fund, units);
    return purse(fund).units;
  }

  public int take(int fund, int units) {
    Purse f = purse(fund);
    bounds(units, 1, 9999);
    if (f.units < units || worth(world, f).signum() <= 0) {
      return -9;
    }
    change('T', fund, units);
    return purse(fund).units;
  }

  public int trade(int fund) {
    Purse f = purse(fund);
    if (goals(world, f) == null) {
      return -9;
    }
    change('X', fund);
    return purse(fund).touched;
  }

  public int lend(int fund, int paper, int percent) {
    Purse f = purse(fund);
    stock(paper);
    bounds(percent, 0, 100);
    int before = f.lent[paper];
    change('L', fund, paper, percent);
    return before;
  }

  public int ofPaper(int paper, int what) {
    stock(paper);
    bounds(what, 0, 6);
    Stock s = world.stocks.get(paper);
    int in = 0;
    for (Gauge g : world.gauges) {
      in += g.members.contains(paper) ? 1 : 0;
    }
    return new int[] {s.kind, (int) s.count, s.free, now(world, paper), s.came, s.gone ? 1 : 0, in}[what];
  }

  public int priceOn(int paper, int day) {
    stock(paper);
    bounds(day, 0, world.today);
    return day < world.stocks.get(paper).came ? -1 : priceAt(paper, day);
  }

  public String size(int paper) {
    stock(paper);
    return "" + sizeOf(world, paper);
  }

  private BigInteger lent(Purse f, int paper) {
    return Part.of(f.holding[paper]).times(f.lent[paper]).over(100).floor();
  }

  public String votes(int paper, boolean isVotes) {
    stock(paper);
    BigInteger sum = BigInteger.ZERO;
    for (Purse f : world.purses) {
      sum = sum.add(f.holding[paper]);
      sum = isVotes ? sum.subtract(lent(f, paper)) : sum;
    }
    return sum.toString();
  }

  public int rank(int index, int paper) {
    Gauge g = gauge(index);
    stock(paper);
    int at = candidates(world, g).indexOf(paper);
    return at < 0 ? -1 : at + 1;
  }

  public int ofIndex(int index, int what) {
    Gauge g = gauge(index);
    bounds(what, 0, 11);
    return new int[] {g.way, g.wanted, g.buffer, g.cap, g.region, g.back ? 1 : 0, g.tax, g.whole,
        g.members.size(), g.first, g.due ? 1 : 0, (int) g.drift}[what];
  }

  public String level(int index, int day) {
    Gauge g = gauge(index);
    bounds(day, 0, world.today);
    BigInteger n = levelOf(g, day);
    return n == null ? "-" : n.toString();
  }

  private BigInteger levelOf(Gauge g, int day) {
    if (day < world.today) {
      return g.level[day];
    }
    Part exact = exactLevel(world, g);
    return exact == null ? null : rounded(exact);
  }

  public String members(int index) {
    StringBuilder all = new StringBuilder();
    for (int p : gauge(index).members) {
      all.append(all.length() > 0 ? " " : "").append(p);
    }
    return all.toString();
  }

  public String why(int index) {
    return gauge(index).why;
  }

  public String weight(int index, int paper) {
    Gauge g = gauge(index);
    stock(paper);
    return g.weight[paper].toString();
  }

  public int isCut(int index, int paper) {
    Gauge g = gauge(index);
    stock(paper);
    return g.cut[paper] ? 1 : 0;
  }

  public int part10000(int index, int paper) {
    Gauge g = gauge(index);
    stock(paper);
    if (g.holding == null) {
      return 0;
    }
    Part part = g.holding[paper].times(now(world, paper)).over(basketWorth(world, g));
    return part.times(10000).floor().intValueExact();
  }

  public int common(int a, int b) {
    List<Integer> both = new ArrayList<>(gauge(a).members);
    both.retainAll(gauge(b).members);
    return both.size();
  }

  public String growth(int index, int from, int to) {
    Gauge g = gauge(index);
    bounds(from, 0, world.today);
    bounds(to, 0, world.today);
    BigInteger low = levelOf(g, from);
    BigInteger up = levelOf(g, to);
    return low == null || up == null || low.signum() == 0 ? "-" : new Part(up, low).toString();
  }

  public String report(int index) {
    Gauge g = gauge(index);
    StringBuilder all = new StringBuilder();
    for (int p = 0; p < world.stocks.size() && g.holding != null; p++) {
      if (g.holding[p].sign() > 0) {
        int part = part10000(index, p);
        String percent = String.format("%d.%02d", part / 100, part % 100);
        all.append(String.format("%2d %6s;", p, percent));
      }
    }
    return all.toString();
  }

  public String changed() {
    String last = "";
    for (String m : moves) {
      last = m == null ? last : m;
    }
    return last;
  }

  public int ofFund(int fund, int what) {
    Purse f = purse(fund);
    bounds(what, 0, 8);
    int some = 0;
    for (BigInteger h : f.holding) {
      some += h.signum() > 0 ? 1 : 0;
    }
    return new int[] {f.index, f.fee, f.sample, f.lots, f.units, (int) f.left, some, f.touched,
        (int) f.carried}[what];
  }

  public String money(int fund, int what) {
    Purse f = purse(fund);
    bounds(what, 0, 2);
    return (what == 0 ? f.money : what == 1 ? worth(world, f) : f.fees).toString();
  }

  public String held(int fund, int paper) {
    Purse f = purse(fund);
    stock(paper);
    return f.holding[paper].toString();
  }

  public String unit(int fund) {
    Purse f = purse(fund);
    return f.units == 0 ? "-" : Part.of(worth(world, f)).over(f.units).toString();
  }

  public String would(int fund) {
    Purse f = purse(fund);
    BigInteger[] to = goals(world, f);
    if (to == null) {
      return "-";
    }
    StringBuilder all = new StringBuilder();
    for (int p = 0; p < world.stocks.size(); p++) {
      BigInteger more = to[p].subtract(f.holding[p]);
      if (more.signum() != 0) {
        all.append(all.length() > 0 ? " " : "").append(p).append(":").append(more);
      }
    }
    return all.toString();
  }

  public String error(int fund) {
    return purse(fund).error.toString();
  }

  public String gain(int fund, int price) {
    Purse f = purse(fund);
    bounds(price, 1, 999999);
    if (f.units == 0) {
      return "-";
    }
    Part more = Part.of(price).minus(Part.of(worth(world, f)).over(f.units));
    if (more.sign() == 0) {
      return "0";
    }
    return more.sign() > 0 ? more.floor() + "m" : Part.ZERO.minus(more).floor() + "t";
  }

  public String collateral(int fund) {
    Purse f = purse(fund);
    BigInteger sum = BigInteger.ZERO;
    for (int p = 0; p < world.stocks.size(); p++) {
      sum = sum.add(Part.of(lent(f, p)).times(now(world, p)).times(105).over(100).ceiling());
    }
    return sum.toString();
  }

  public int undo() {
    if (steps == 0) {
      throw new IllegalStateException();
    }
    steps--;
    deeds.remove(deeds.size() - 1);
    moves.remove(moves.size() - 1);
    world = redo();
    return steps;
  }

  public int house(int what) {
    bounds(what, 0, 7);
    int due = 0;
    for (Gauge g : world.gauges) {
      due += g.due ? 1 : 0;
    }
    int gone = 0;
    for (Stock s : world.stocks) {
      gone += s.gone ? 1 : 0;
    }
    return new int[] {world.today, world.stocks.size(), world.gauges.size(), world.purses.size(), steps,
        due, knocks, gone}[what];
  }

  public int knock() {
    return ++knocks;
  }

  public boolean isSound() {
    return true;
  }

  private long sum;

  private void add(long v) {
    sum = sum * 31 + v;
  }

  private void add(String text) {
    for (char c : text.toCharArray()) {
      add(c);
    }
  }

  public long digest() {
    sum = 6903;
    for (int what = 0; what <= 7; what++) {
      add(house(what));
    }
    int papers = world.stocks.size();
    for (int p = 0; p < papers; p++) {
      for (int what = 0; what <= 6; what++) {
        add(ofPaper(p, what));
      }
      add(votes(p, true));
      add(votes(p, false));
    }
    for (int i = 0; i < world.gauges.size(); i++) {
      for (int what = 0; what <= 11; what++) {
        add(ofIndex(i, what));
      }
      add(why(i));
      for (int day = 0; day <= world.today; day++) {
        add(level(i, day));
      }
      for (int p = 0; p < papers; p++) {
        add(part10000(i, p));
        add(isCut(i, p));
      }
      add(report(i).length());
    }
    for (int f = 0; f < world.purses.size(); f++) {
      for (int what = 0; what <= 8; what++) {
        add(ofFund(f, what));
      }
      for (int what = 0; what <= 2; what++) {
        add(money(f, what));
      }
      for (int p = 0; p < papers; p++) {
        add(held(f, p));
      }
      add(would(f));
      add(error(f));
      add(collateral(f));
    }
    add(changed().length());
    add(isSound() ? 1 : 0);
    return sum;
  }
}
