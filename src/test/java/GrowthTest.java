import java.util.Arrays;

/** Numbers that grow for as many calls as a run may have: answers are those of the plain model. */
public final class GrowthTest {
  /** What is asked at the end takes no more calls. */
  private static final int LAST_CALLS = 34;

  private static Indexkeeper real;
  private static PlainHelp plain;
  private static int made;

  private GrowthTest() {
  }

  public static void main(String[] args) {
    int calls = args.length > 0 ? Integer.parseInt(args[0]) : ScriptHelp.MOST_CALLS;
    for (int sort = 0; sort < 6; sort++) {
      start(sort);
      for (int i = 0; made + 3 <= calls - LAST_CALLS; i++) {
        grow(sort, i);
      }
      ask();
      ScriptHelp.due(0, "whether there were no more calls than " + calls, made <= calls, true);
    }
    ScriptHelp.close("growth");
  }

  private static void call(String name, Object... with) {
    made++;
    String got = CallHelp.ask(real, name, with);
    ScriptHelp.due(0, name + Arrays.toString(with), got, CallHelp.ask(plain, name, with));
  }

  private static void start(int way) {
    real = new Indexkeeper();
    plain = new PlainHelp();
    made = 0;
    for (int p = 0; p < 8; p++) {
      call("paper", 99999 - p, 100 - p, p % 4, way == 4 ? 1 : 99991 - p * 17);
    }
    for (int i = 0; i < 4; i++) {
      call("index", (way + i) % 4, 8, i % 4, 25 + i, -1, i % 2 == 0);
      call("review", i);
    }
    for (int f = 0; f < 3; f++) {
      call("fund", f, 999, way % 3, 1);
    }
    call("make", 0, 9999);
    call("next");
    call("make", 1, 1);
    call("trade", 0);
    call("trade", 1);
    call("lend", 0, 0, 99);
  }

  private static void grow(int sort, int i) {
    switch (sort) {
      case 0:
        call("rights", i % 8, 20, 19, 1);
        break;
      case 1:
        call("split", 0, 20, 1);
        break;
      case 2:
        call("split", i % 8, 19, 20);
        break;
      case 3:
        call("rights", 0, 20, 1, 99999);
        break;
      case 4:
        call(i % 2 == 0 ? "pay" : "trade", i % 2 == 0 ? new Object[] {0, 99999} : new Object[] {0});
        break;
      default:
        call("price", i % 8, today(), i % 3 == 0 ? 99999 : 1);
        call("trade", 0);
        break;
    }
    if (i % 12 == 11) {
      call("next");
    }
  }

  /** Asked of the plain model, so that it is no call of the keeper. */
  private static int today() {
    return plain.house(0);
  }

  private static void ask() {
    call("digest");
    for (int i = 0; i < 4; i++) {
      call("level", i, today());
      call("growth", i, 1, today());
      call("report", i);
    }
    for (int f = 0; f < 2; f++) {
      call("would", f);
      call("unit", f);
      call("error", f);
      call("collateral", f);
      call("gain", f, 999999);
    }
    call("price", 0, 1, 3);
    call("digest");
    call("undo");
    call("digest");
  }
}
