/** Promises 20 to 24: levels and looking. */
public final class LevelsTest {
  public static void main(String[] args) {
    promise20();
    promise21();
    promise22();
    promise23();
    promise23Queue();
    promise24();
    Check.end("LevelsTest");
  }

  private static void promise20() {
    Wishsolver x = Check.with(3, 3);
    x.unlike(3, 0);
    for (int i = 1; i <= 6; i++) Check.same("20 level", x.suppose(), i);
    Check.refuses("20 level 7", x, Check.STATE, () -> x.suppose());
    Check.same("20 all as it was", x.waiting() + " " + x.house(5), "0 4");
    Check.same("20 a rule of level 6", x.order(0, 0, 1, 0) + " " + x.ofRule(1, 3), "1 6");
    Check.same("20 without variables", new Wishsolver().suppose(), 1);
    Wishsolver y = Check.with(3);
    y.often(1, 0, 2, 6, 0);
    y.settle();
    Check.same("20 of a failed house", y.suppose() + " " + y.house(4), "1 1");
  }

  private static void promise21() {
    Wishsolver x = Check.with(7, 7, 7);
    x.order(0, 1, 1, 0);
    x.order(1, 0, 2, 0);
    x.often(4, 0, 0, 1, 0);
    x.often(3, 0, 0, 6, 6);
    x.settle();
    Check.refuses("21 no variable", x, Check.INDEX, () -> x.choose(3, 9));
    Check.refuses("21 below", x, Check.INDEX, () -> x.choose(-1, 0));
    Check.refuses("21 not in the range", x, Check.ARGUMENT, () -> x.choose(0, 2));
    Check.refuses("21 no value", x, Check.ARGUMENT, () -> x.choose(0, 6));
    Check.refuses("21 value below", x, Check.ARGUMENT, () -> x.choose(0, -1));
    Check.same("21 went", x.choose(1, 2), 1);
    Check.same("21 sets", Check.ranges(x, 1) + " " + Check.ranges(x, 0), "4/4 7/3");
    Check.same("21 who waits", x.waiting() + ", " + x.house(2), "0 1 3, 1");
    x.settle();
    Check.same("21 nothing went", x.choose(1, 2), 0);
    Check.same("21 nobody waits", x.waiting() + " " + x.house(2), "- 2");
    Check.same("21 told alone", x.choose(2, 2) + " " + Check.ranges(x, 2), "0 4/4");
    for (int i = 4; i <= 6; i++) x.choose(0, 1);
    Check.refuses("21 level 7", x, Check.STATE, () -> x.choose(0, 1));
    Check.refuses("21 level 7, no value", x, Check.ARGUMENT, () -> x.choose(0, 0));
    Check.same("21 solutions", Check.solutions(x), "1 2 2");
    Wishsolver y = Check.with(3);
    y.often(1, 0, 2, 6, 0);
    y.settle();
    Check.refuses("21 failed", y, Check.ARGUMENT, () -> y.choose(0, 0));
  }

  private static void promise22() {
    Wishsolver x = Check.with(15, 15);
    Check.refuses("22 level 0", x, Check.STATE, () -> x.back());
    x.order(0, 1, 1, 0);
    x.look();
    x.take(1, 3);
    String before = Check.picture(x).split(";", 2)[1];
    String waited = x.waiting();
    x.suppose();
    x.unlike(3, 0);
    x.often(1, 0, 1, 1, 2);
    x.take(0, 1);
    x.look();
    Check.same("22 level 2", x.choose(0, 0) + " " + x.house(2), "0 2");
    x.settle();
    x.term(1, 3);
    Check.same("22 to 1", x.back(), 1);
    Check.same("22 rules stay at 1", x.house(1), 3);
    Check.same("22 to 0", x.back(), 0);
    Check.same("22 waits as before", x.waiting(), waited);
    Check.same("22 the slip stays", x.wipe(), 1);
    Check.same("22 counted on", x.house(9) > 1, true);
    x.goal();
    String after = Check.picture(x).split(";", 2)[1];
    Check.same("22 all else as before", after.split(";")[3] + after.split(";")[4], before.split(";")[3] + before.split(";")[4]);
    Check.refuses("22 level 0 again", x, Check.STATE, () -> x.back());
    Wishsolver y = Check.with(3, 3);
    y.begin(false, 0);
    y.suppose();
    y.step();
    y.term(0, 1);
    y.goal();
    y.often(3, 0, 3, 6, 0);
    y.settle();
    y.take(0, 0);
    y.back();
    Check.same("22 failed no more", y.house(4) + " " + Check.ranges(y, 0) + " " + Check.ranges(y, 1) + y.house(1), "0 3/3 3/30");
    Check.same("22 goal and search stay", y.house(8) + " " + y.chosen(), "1 0=0");
  }

  private static void promise23() {
    Wishsolver x = Check.with(7, 7, 7);
    Check.refuses("23 none", x, Check.NO_ELEMENT, () -> x.look());
    x.order(0, 1, 1, 0);
    Check.same("23 took", x.look(), 2);
    Check.same("23 took so", Check.ranges(x, 0) + " " + Check.ranges(x, 1), "7/3 7/6");
    Check.refuses("23 none any more", x, Check.NO_ELEMENT, () -> x.look());
    x.order(1, 2, 0, 4);
    Check.same("23 a soft one", x.look() + " " + x.house(9) + " " + x.house(10), "0 2 2");
    x.unlike(6, 0);
    Check.same("23 takes nothing", x.look(), 0);
    Wishsolver p = Check.with(7, 7);
    p.order(0, 1, 1, 1);
    Check.same("23 soft by the least price", p.look() + " " + p.house(5), "0 6");
    x.take(2, 0);
    Check.same("23 a rule comes behind", x.often(2, 1, 0, 0, 0) + " " + x.waiting(), "3 2 3");
    Check.same("23 the first of them", x.look() + " " + x.waiting(), "0 3");
    Check.same("23 others come", x.look() + " " + x.waiting(), "1 0 1 2");
    Check.same("23 one by one", x.look() + " " + x.look() + " " + x.look() + " " + x.waiting(), "0 0 1 -");
    x.order(2, 1, 0, 0);
    x.often(7, 5, 0, 6, 0);
    Check.same("23 it fails", x.look(), 2 + 1 + 1);
    Check.same("23 all empty", x.house(4) + " " + x.house(5) + " " + x.waiting() + " " + x.house(10), "1 0 - 8");
    Check.refuses("23 failed", x, Check.NO_ELEMENT, () -> x.look());
    Check.same("23 none of a failed house", x.unlike(3, 0) + x.waiting(), "6-");
  }

  private static void promise23Queue() {
    Wishsolver x = Check.with(7, 7, 7);
    x.often(4, 5, 0, 6, 0);
    x.often(1, 5, 0, 6, 0);
    x.order(1, 0, 2, 0);
    x.often(6, 5, 0, 6, 0);
    x.order(0, 1, 1, 0);
    x.settle();
    x.take(2, 2);
    Check.same("23 rising numbers", x.waiting(), "0 2 3");
    x.look();
    Check.same("23 variable by variable, without itself", x.look() + " " + x.waiting(), "1 3 4");
    x.look();
    Check.same("23 as they come", x.look() + " " + x.waiting(), "1 1");
    Wishsolver y = Check.with(7, 7);
    y.often(2, 5, 0, 6, 0);
    y.often(1, 5, 0, 6, 0);
    y.order(0, 1, 1, 0);
    y.look();
    y.look();
    Check.same("23 those of 0 first", y.look() + " " + y.waiting(), "2 1 0");
  }

  private static void promise24() {
    Wishsolver x = Check.with(15, 15, 15);
    Check.same("24 none", x.settle(), 0);
    x.order(0, 1, 1, 0);
    x.order(1, 1, 2, 0);
    x.unlike(7, 3);
    Check.same("24 looks", x.settle(), 5);
    Check.same("24 sets", x.range(0, false) + " " + x.range(1, false) + " " + x.range(2, false), "3 6 12");
    Check.same("24 counted", x.house(9) + " " + x.house(10) + " " + x.waiting(), "5 6 -");
    Check.same("24 once", x.settle(), 0);
    x.often(7, 3, 2, 6, 0);
    Check.same("24 till it fails", x.settle() + " " + x.house(4) + " " + x.house(10) + " " + x.house(9), "1 1 12 6");
    Check.same("24 failed", x.settle(), 0);
  }
}
