/** Promises 46 to 48: the house, whether all is sound, the checksum. */
public final class WholeTest {
  public static void main(String[] args) {
    promise46();
    promise47();
    promise47Soft();
    promise48();
    promise48Order();
    Check.end("WholeTest");
  }

  private static String house(Wishsolver x) {
    StringBuilder all = new StringBuilder();
    for (int i = 0; i <= 11; i++) all.append(i == 0 ? "" : " ").append(x.house(i));
    return all.toString();
  }

  private static void promise46() {
    Wishsolver x = Check.with(7, 7, 3);
    Check.refuses("46 below", x, Check.ARGUMENT, () -> x.house(-1));
    Check.refuses("46 above", x, Check.ARGUMENT, () -> x.house(12));
    Check.terms(x, 1, 1, 1);
    x.goal();
    Check.terms(x, 1, 1);
    x.row(0, 0, 0);
    x.order(0, 1, 1, 0);
    x.order(1, 0, 0, 0);
    x.unlike(5, 3);
    x.draw();
    x.suppose();
    Check.same("46 all", house(x), "3 3 1 3 0 8 2 1 3 0 0 1");
    x.look();
    Check.same("46 looked", house(x), "3 3 1 2 0 6 2 1 3 1 2 1");
    x.settle();
    Check.same("46 failed", house(x), "3 3 1 0 1 0 2 1 3 " + x.house(9) + " 8 1");
    x.back();
    Check.same("46 ever", house(x), "3 3 0 3 0 8 2 1 3 " + x.house(9) + " 8 1");
    x.puzzle(1, 2);
    Check.same("46 a puzzle", house(x), "2 1 0 1 0 4 0 0 0 " + x.house(9) + " 8 1");
  }

  private static void promise47() {
    Wishsolver x = new Wishsolver();
    Check.same("47 without anything", x.isSound(), true);
    for (int kind = 0; kind < 4; kind++) {
      for (int n = 3; n <= 5; n++) {
        x.puzzle(kind, n);
        Check.same("47 a puzzle", x.isSound(), true);
        x.choose(0, 0);
        x.settle();
        x.begin(false, 0);
        x.run(12);
        Check.same("47 settled", x.isSound(), true);
        x.take(1, 1);
        x.take(1, 2);
        x.settle();
        Check.same("47 taken", x.isSound(), true);
      }
    }
  }

  private static void promise47Soft() {
    Wishsolver x = Check.with(7, 7);
    x.order(0, 1, 1, 1);
    x.settle();
    Check.same("47 a soft rule would take, if it could", x.ofRule(0, 6) + " " + x.isSound(), "2 true");
    x.order(0, 2, 1, 0);
    Check.same("47 it may wait", x.isSound() + " " + x.waiting(), "true 1");
    x.order(1, 2, 0, 0);
    x.settle();
    Check.same("47 failed", x.house(4) + " " + x.isSound(), "1 true");
  }

  private static void promise48() {
    Wishsolver x = new Wishsolver();
    Check.same("48 nothing", x.digest(), Check.checksum(x));
    Check.same("48 is not changed by asking", x.digest(), x.digest());
    x.variable(31);
    x.variable(62);
    x.variable(22);
    x.order(0, 1, 1, 0);
    x.term(0, 2);
    x.goal();
    x.unlike(7, 4);
    Check.same("48 rules", x.digest(), Check.checksum(x));
    x.settle();
    x.begin(true, 3);
    x.run(3);
    x.draw();
    Check.same("48 a search", x.digest(), Check.checksum(x));
    x.choose(0, 3);
    x.order(1, 2, 2, 0);
    x.order(2, 0, 0, 0);
    Check.same("48 no solution", x.digest(), Check.checksum(x));
    x.often(1, 5, 1, 1, 0);
    Check.same("48 one that is tight", x.tights(1) + " " + x.digest(), "1 " + Check.checksum(x));
    x.puzzle(0, 3);
    x.begin(false, 0);
    x.run(12);
    x.row(1, 1, 1);
    Check.same("48 a proof", x.digest(), Check.checksum(x));
  }

  /** Each answer that it is made of changes it. */
  private static void promise48Order() {
    Wishsolver x = Check.with(7, 7);
    long before = x.digest();
    x.term(0, 1);
    long term = x.digest();
    x.wipe();
    x.row(0, 0, 0);
    long row = x.digest();
    x.wipe();
    Check.same("48 as before", x.digest(), before);
    x.draw();
    Check.same("48 all apart", java.util.Set.of(before, term, row, x.digest()).size(), 4);
  }
}
