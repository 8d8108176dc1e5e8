import java.util.Arrays;

/** Runs of chosen calls, on the keeper and on the plain model, whose answers must be the same. */
public final class RandomRunsTest {
  public static void main(String[] args) {
    int runs = args.length > 0 ? Integer.parseInt(args[0]) : 150;
    int calls = args.length > 1 ? Integer.parseInt(args[1]) : 300;
    int from = args.length > 2 ? Integer.parseInt(args[2]) : 0;
    int wrong = 0;
    for (int run = from; run < from + runs && wrong < 5; run++) {
      wrong += isSame(run, calls) ? 0 : 1;
    }
    System.out.println(wrong == 0 ? "random runs: " + runs + " runs are the same" : wrong + " runs differ");
    if (wrong > 0) {
      System.exit(1);
    }
  }

  private static boolean isSame(int run, int calls) {
    Indexkeeper real = new Indexkeeper();
    PlainHelp plain = new PlainHelp();
    CallHelp help = new CallHelp(run, run % CallHelp.SORTS);
    StringBuilder told = new StringBuilder();
    for (int i = 0; i < calls; i++) {
      help.look(plain);
      Object[] call = help.choose();
      Object[] with = Arrays.copyOfRange(call, 1, call.length);
      String one = CallHelp.ask(real, (String) call[0], with);
      String two = CallHelp.ask(plain, (String) call[0], with);
      told.append(call[0]).append(Arrays.toString(with)).append(" -> ").append(one).append('\n');
      if (!one.equals(two)) {
        System.out.println("run " + run + " differs at call " + i + ", due is " + two + ":\n"
            + (calls > 600 ? "" : told));
        return false;
      }
    }
    String last = CallHelp.ask(real, "digest");
    if (!last.equals(CallHelp.ask(plain, "digest")) || !real.isSound()) {
      System.out.println("run " + run + " differs in its last digest\n" + told);
      return false;
    }
    return true;
  }
}
