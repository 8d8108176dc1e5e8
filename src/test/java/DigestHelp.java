import java.math.BigInteger;

/** The checksum of the promise 49 once more, by the calls of the face. */
public final class DigestHelp {
  private DigestHelp() {
  }

  private static final class Sum {
    BigInteger whole = BigInteger.valueOf(6903);

    void add(long v) {
      whole = whole.multiply(BigInteger.valueOf(31)).add(BigInteger.valueOf(v));
    }

    void add(String text) {
      for (char c : text.toCharArray()) {
        add(c);
      }
    }
  }

  /** The checksum as a number of any length, by what the calls of the face answer. */
  public static BigInteger whole(Indexkeeper x) {
    Sum d = new Sum();
    for (int what = 0; what <= 7; what++) {
      d.add(x.house(what));
    }
    int papers = x.house(1);
    for (int p = 0; p < papers; p++) {
      for (int what = 0; what <= 6; what++) {
        d.add(x.ofPaper(p, what));
      }
      d.add(x.votes(p, true));
      d.add(x.votes(p, false));
    }
    for (int i = 0; i < x.house(2); i++) {
      for (int what = 0; what <= 11; what++) {
        d.add(x.ofIndex(i, what));
      }
      d.add(x.why(i));
      for (int day = 0; day <= x.house(0); day++) {
        d.add(x.level(i, day));
      }
      for (int p = 0; p < papers; p++) {
        d.add(x.part10000(i, p));
        d.add(x.isCut(i, p));
      }
      d.add(x.report(i).length());
    }
    for (int f = 0; f < x.house(3); f++) {
      for (int what = 0; what <= 8; what++) {
        d.add(x.ofFund(f, what));
      }
      for (int what = 0; what <= 2; what++) {
        d.add(x.money(f, what));
      }
      for (int p = 0; p < papers; p++) {
        d.add(x.held(f, p));
      }
      d.add(x.would(f));
      d.add(x.error(f));
      d.add(x.collateral(f));
    }
    d.add(x.changed().length());
    d.add(x.isSound() ? 1 : 0);
    return d.whole;
  }
}
