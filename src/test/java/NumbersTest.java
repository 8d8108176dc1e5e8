import java.lang.reflect.Constructor;
import java.lang.reflect.Field;
import java.lang.reflect.Method;
import java.math.BigInteger;
import java.util.Arrays;
import java.util.Random;

/**
 * The numbers that a long cannot hold, reckoned once more by the Java library's. How they are held is
 * free, so this test is for the class Big alone; GrowthTest looks at what the face tells of them.
 */
public final class NumbersTest {
  private static final int BASE = 1000000000;
  private static final Class<?> BIG = inner("Big");
  private static final Class<?> DIVIDER = inner("Divider");
  private static final Random CHANCE = new Random(6903);

  private NumbersTest() {
  }

  public static void main(String[] args) throws ReflectiveOperationException {
    if (BIG == null || DIVIDER == null) {
      System.out.println("numbers: there is no class Big inside, so there is nothing to test");
      return;
    }
    for (int i = 0; i < 20000; i++) {
      divide(number(1 + CHANCE.nextInt(7)), number(1 + CHANCE.nextInt(4)));
    }
    divideCrafted();
    for (int i = 0; i < 3000; i++) {
      add(number(CHANCE.nextInt(5)), number(CHANCE.nextInt(5)));
      product(number(CHANCE.nextInt(5)), number(CHANCE.nextInt(5)));
      scale(number(CHANCE.nextInt(5)), CHANCE.nextInt(3) == 0 ? CHANCE.nextInt(3) : CHANCE.nextInt(9999901));
    }
    ScriptHelp.close("numbers");
  }

  /** Divisions in which the guess of a digit is too large by one, or nearly so. */
  private static void divideCrafted() throws ReflectiveOperationException {
    BigInteger base = BigInteger.valueOf(BASE);
    int[] heads = {BASE / 2, BASE / 2 + 1, BASE - 1, 1, 2, BASE / 3};
    int[] limbs = {0, 1, BASE / 2 - 1, BASE / 2, BASE - 2, BASE - 1};
    for (int head : heads) {
      for (int middle : limbs) {
        for (int last : limbs) {
          BigInteger low = BigInteger.valueOf(head).multiply(base).add(BigInteger.valueOf(middle)).multiply(base)
              .add(BigInteger.valueOf(last));
          for (int digit : limbs) {
            for (int more : limbs) {
              BigInteger up = low.multiply(BigInteger.valueOf(digit).multiply(base).add(BigInteger.valueOf(more)));
              divide(up, low);
              divide(up.subtract(BigInteger.ONE).abs(), low);
              divide(up.add(low).subtract(BigInteger.ONE), low);
            }
          }
        }
      }
    }
  }

  private static Class<?> inner(String name) {
    for (Class<?> c : Indexkeeper.class.getDeclaredClasses()) {
      if (c.getSimpleName().equals(name)) {
        return c;
      }
    }
    return null;
  }

  /** Limbs that are 0, small, or full more often than by chance. */
  private static BigInteger number(int limbs) {
    BigInteger all = BigInteger.ZERO;
    for (int i = 0; i < limbs; i++) {
      int sort = CHANCE.nextInt(6);
      int limb = sort == 0 ? 0 : sort == 1 ? BASE - 1 : sort == 2 ? CHANCE.nextInt(3) : sort == 3 ? BASE / 2
          : CHANCE.nextInt(BASE);
      all = all.multiply(BigInteger.valueOf(BASE)).add(BigInteger.valueOf(limb));
    }
    return all;
  }

  private static Object make(Class<?> of, Object... with) throws ReflectiveOperationException {
    Constructor<?> c = of.getDeclaredConstructors()[0];
    c.setAccessible(true);
    return c.newInstance(with);
  }

  private static Object call(Object on, String name, Object... with) throws ReflectiveOperationException {
    for (Method m : on.getClass().getDeclaredMethods()) {
      if (m.getName().equals(name)) {
        m.setAccessible(true);
        return m.invoke(on, with);
      }
    }
    throw new IllegalStateException(name);
  }

  private static Object field(Object of, String name) throws ReflectiveOperationException {
    Field f = of.getClass().getDeclaredField(name);
    f.setAccessible(true);
    return f.get(of);
  }

  private static void set(Object of, String name, Object to) throws ReflectiveOperationException {
    Field f = of.getClass().getDeclaredField(name);
    f.setAccessible(true);
    f.set(of, to);
  }

  private static Object big(BigInteger from) throws ReflectiveOperationException {
    Object big = make(BIG, 20);
    int[] limbs = (int[]) field(big, "limbs");
    // what stands behind the last limb must not count
    Arrays.fill(limbs, BASE - 1);
    int length = 0;
    for (BigInteger rest = from.abs(); rest.signum() > 0; rest = rest.divide(BigInteger.valueOf(BASE))) {
      limbs[length++] = rest.mod(BigInteger.valueOf(BASE)).intValue();
    }
    set(big, "length", length);
    set(big, "isBelow", from.signum() < 0);
    return big;
  }

  private static BigInteger whole(Object big) throws ReflectiveOperationException {
    int[] limbs = (int[]) field(big, "limbs");
    int length = (Integer) field(big, "length");
    BigInteger all = BigInteger.ZERO;
    for (int i = length - 1; i >= 0; i--) {
      all = all.multiply(BigInteger.valueOf(BASE)).add(BigInteger.valueOf(limbs[i]));
    }
    boolean isTrim = length == 0 || limbs[length - 1] != 0;
    ScriptHelp.due(0, "no limb too many in " + all, isTrim, true);
    return (Boolean) field(big, "isBelow") ? all.negate() : all;
  }

  private static Object divider;

  private static void divide(BigInteger a, BigInteger b) throws ReflectiveOperationException {
    divider = divider == null ? make(DIVIDER) : divider;
    if (b.signum() == 0) {
      return;
    }
    call(divider, "divide", big(a), big(b));
    ScriptHelp.due(0, a + " / " + b, whole(field(divider, "quotient")), a.divide(b));
    ScriptHelp.due(0, a + " mod " + b, whole(field(divider, "rest")), a.mod(b));
  }

  private static void add(BigInteger a, BigInteger b) throws ReflectiveOperationException {
    BigInteger one = CHANCE.nextBoolean() ? a : a.negate();
    BigInteger two = CHANCE.nextBoolean() ? b : b.negate();
    boolean isOff = CHANCE.nextBoolean();
    Object sum = big(one);
    call(sum, "add", big(two), isOff);
    ScriptHelp.due(0, one + " and " + two + " " + isOff, whole(sum), isOff ? one.subtract(two) : one.add(two));
    ScriptHelp.due(0, a + " by " + b, call(big(one), "compareSize", big(two)), a.compareTo(b));
  }

  private static void product(BigInteger a, BigInteger b) throws ReflectiveOperationException {
    Object product = big(BigInteger.TEN.pow(100));
    BigInteger two = CHANCE.nextBoolean() ? b : b.negate();
    call(product, "product", big(a), big(two));
    ScriptHelp.due(0, a + " * " + two, whole(product), a.multiply(two));
  }

  private static void scale(BigInteger a, int by) throws ReflectiveOperationException {
    BigInteger factor = BigInteger.valueOf(by);
    Object it = big(a);
    call(it, "scale", by);
    ScriptHelp.due(0, a + " scaled by " + by, whole(it), a.multiply(factor));
    call(it, "addTimes", big(a), by);
    ScriptHelp.due(0, a + " added times " + by, whole(it), a.multiply(factor).shiftLeft(1));
    if (by > 0) {
      Object rest = call(it, "shrink", by + 1);
      BigInteger[] due = a.multiply(factor).shiftLeft(1).divideAndRemainder(BigInteger.valueOf(by + 1));
      ScriptHelp.due(0, a + " shrunk by " + by, whole(it), due[0]);
      ScriptHelp.due(0, a + " shrunk by " + by, BigInteger.valueOf((Integer) rest), due[1]);
    }
    long value = CHANCE.nextBoolean() ? CHANCE.nextInt() : CHANCE.nextLong() >> CHANCE.nextInt(60);
    call(it, "put", value);
    ScriptHelp.due(0, "put " + value, whole(it), BigInteger.valueOf(value));
  }
}
