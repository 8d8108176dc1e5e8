import java.lang.reflect.InvocationTargetException;
import java.lang.reflect.Method;
import java.util.HashMap;
import java.util.Map;
import java.util.Random;

/** Chooses calls by chance (always the same chance) and makes them by name. */
public final class CallHelp {
  private static final Map<String, Method> REAL = faceOf(Indexkeeper.class);
  private static final Map<String, Method> PLAIN = faceOf(PlainHelp.class);

  /** What sort of run it is: how often a sort of call comes, and how wild its numbers are. */
  public static final int ORDINARY = 0;
  public static final int WRONG = 1;
  public static final int GROWING = 2;
  public static final int LATE = 3;
  public static final int DAYS = 4;
  public static final int BACK = 5;
  public static final int NARROW = 6;
  public static final int SORTS = 7;

  /** So that the number of members * CAP is just 100, or near it. */
  private static final int[] CAPS = {10, 12, 13, 20, 25, 33, 34, 49, 50, 99, 100};
  private static final int[] PRICES = {1, 1, 1, 2, 3, 99998, 99999};

  private final Random chance;
  private final int sort;
  /** What the run has so far, so that most arguments are good ones. */
  private int papers;
  private int indexes;
  private int funds;
  private int today;
  private final int[] units = new int[3];

  public CallHelp(long seed, int itsSort) {
    chance = new Random(seed);
    sort = itsSort;
  }

  private static Map<String, Method> faceOf(Class<?> of) {
    Map<String, Method> all = new HashMap<>();
    for (Method m : of.getDeclaredMethods()) {
      if (java.lang.reflect.Modifier.isPublic(m.getModifiers())) {
        all.put(m.getName(), m);
      }
    }
    return all;
  }

  /** The answer, or the name of the exception behind "throws.". */
  public static String ask(Object of, String name, Object... args) {
    Map<String, Method> face = of instanceof Indexkeeper ? REAL : PLAIN;
    try {
      return String.valueOf(face.get(name).invoke(of, args));
    } catch (InvocationTargetException e) {
      return "throws." + e.getCause().getClass().getSimpleName();
    } catch (IllegalAccessException e) {
      throw new IllegalStateException(e);
    }
  }

  public void look(Object at) {
    today = Integer.parseInt(ask(at, "house", 0));
    papers = Integer.parseInt(ask(at, "house", 1));
    indexes = Integer.parseInt(ask(at, "house", 2));
    funds = Integer.parseInt(ask(at, "house", 3));
    for (int f = 0; f < funds; f++) {
      units[f] = Integer.parseInt(ask(at, "ofFund", f, 4));
    }
  }

  private int in(int least, int most) {
    int off = sort == WRONG ? 6 : 60;
    if (chance.nextInt(off) == 0) {
      return chance.nextInt(3) == 0 ? most + 1 : chance.nextInt(2) == 0 ? least - 1
          : chance.nextInt(2) == 0 ? Integer.MAX_VALUE : Integer.MIN_VALUE;
    }
    if (chance.nextInt(12) == 0) {
      return chance.nextBoolean() ? least : most;
    }
    return most <= least ? least : least + chance.nextInt(most - least + 1);
  }

  private int one(int of) {
    return in(0, Math.max(0, of - 1));
  }

  private int price() {
    if (sort == NARROW) {
      return PRICES[chance.nextInt(PRICES.length)];
    }
    switch (chance.nextInt(4)) {
      case 0:
        return in(1, 9);
      case 1:
        return in(1, 99999);
      default:
        return in(40, 200);
    }
  }

  private int ratio() {
    return sort == GROWING ? in(1, 20) : in(1, 4);
  }

  /** A name and its arguments. */
  public Object[] choose() {
    int roll = chance.nextInt(100);
    if (papers < 3 && roll < 60) {
      return paperCall();
    }
    if (indexes < 2 && roll < 80) {
      return indexCall();
    }
    if (funds < 1 && roll < 90) {
      return fundCall();
    }
    // several in a row, so that all the steps back are gone now and then
    if (sort == BACK && chance.nextInt(4) == 0) {
      return new Object[] {"undo"};
    }
    int kind = chance.nextInt(100);
    if (kind < 45) {
      return question();
    }
    if (kind < 57) {
      return fundDeed();
    }
    if (kind < (sort == DAYS ? 80 : 68)) {
      return today < 40 || sort == WRONG ? new Object[] {"next"} : question();
    }
    if (kind < (sort == LATE ? 90 : 80)) {
      return new Object[] {"price", one(papers), in(Math.max(0, today - chance.nextInt(41)), today), price()};
    }
    if (kind < (sort == GROWING ? 97 : 90)) {
      return eventCall();
    }
    return rareCall();
  }

  private Object[] paperCall() {
    return new Object[] {"paper", in(1, chance.nextBoolean() ? 99999 : 99), in(1, 100), in(0, 3), price()};
  }

  private Object[] indexCall() {
    if (sort == NARROW) {
      return new Object[] {"index", 2, in(1, 8), in(0, 3), CAPS[chance.nextInt(CAPS.length)], -1, chance.nextBoolean()};
    }
    return new Object[] {"index", in(0, 3), in(1, 8), in(0, 3), in(10, 100),
        chance.nextInt(3) == 0 ? in(0, 3) : -1, chance.nextBoolean()};
  }

  private Object[] fundCall() {
    return new Object[] {"fund", one(indexes), in(0, 999), chance.nextBoolean() ? 0 : in(0, 8),
        chance.nextBoolean() ? 1 : in(1, 100)};
  }

  private Object[] fundDeed() {
    int all = chance.nextInt(units.length);
    if (units[all] > 0 && chance.nextInt(20) == 0) {
      return new Object[] {"take", all, units[all]};
    }
    switch (chance.nextInt(6)) {
      case 0:
      case 1:
        return new Object[] {"make", one(funds), chance.nextBoolean() ? in(1, 9999) : in(1, 20)};
      case 2:
        return new Object[] {"take", one(funds), chance.nextBoolean() ? in(1, 9999) : in(1, 20)};
      case 3:
        return new Object[] {"lend", one(funds), one(papers), in(0, 100)};
      default:
        return new Object[] {"trade", one(funds)};
    }
  }

  private Object[] eventCall() {
    int p = one(papers);
    switch (chance.nextInt(sort == GROWING ? 12 : 8)) {
      case 0:
        return new Object[] {"spin", p, ratio(), ratio(), price()};
      case 1:
        return chance.nextInt(4) > 0 ? new Object[] {"pay", p, price()}
            : new Object[] {"merge", p, one(papers), ratio(), ratio()};
      case 2:
      case 3:
        return new Object[] {"pay", p, price()};
      case 4:
      case 5:
        return new Object[] {"rights", p, ratio(), ratio(), price()};
      default:
        return new Object[] {"split", p, ratio(), ratio()};
    }
  }

  private Object[] rareCall() {
    switch (chance.nextInt(14)) {
      case 0:
        return paperCall();
      case 1:
        return indexCall();
      case 2:
        return fundCall();
      case 3:
        return new Object[] {"count", one(papers), in(1, 99999)};
      case 4:
        return new Object[] {"free", one(papers), in(1, 100)};
      case 5:
        return new Object[] {"tax", one(indexes), in(0, 100)};
      case 6: {
        int i = one(indexes);
        return new Object[] {"part", i, in(-1, Math.max(-1, Math.min(3, i - 1)))};
      }
      case 7:
        return new Object[] {"knock"};
      case 8:
        return new Object[] {"undo"};
      default:
        return new Object[] {"review", one(indexes)};
    }
  }

  private Object[] question() {
    int p = one(papers);
    int i = one(indexes);
    int f = one(funds);
    Object[][] all = {
      {"ofPaper", p, in(0, 6)}, {"priceOn", p, in(0, today)}, {"size", p}, {"votes", p, chance.nextBoolean()},
      {"rank", i, p}, {"ofIndex", i, in(0, 11)}, {"level", i, in(0, today)}, {"level", i, today},
      {"members", i}, {"why", i}, {"weight", i, p}, {"isCut", i, p}, {"part10000", i, p},
      {"common", i, one(indexes)}, {"growth", i, in(0, today), in(0, today)}, {"report", i}, {"changed"},
      {"ofFund", f, in(0, 8)}, {"money", f, in(0, 2)}, {"held", f, p}, {"unit", f}, {"would", f},
      {"error", f}, {"gain", f, chance.nextBoolean() ? in(1, 999999) : in(900, 1100)}, {"collateral", f},
      {"house", in(0, 7)}, {"isSound"}, {"digest"}, {"undo"}, {"review", i}, {"digest"},
    };
    return all[chance.nextInt(all.length)];
  }
}
