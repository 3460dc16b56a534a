/** Promises 29 to 39: what is asked of variables, rules and solutions. */
public final class AskTest {
  public static void main(String[] args) {
    promise29();
    promise30();
    promise31();
    promise32();
    promise33();
    promise34();
    promise35();
    promise36();
    promise37();
    promise38();
    promise39();
    Check.end("AskTest");
  }

  private static void promise29() {
    Wishsolver x = Check.with(63, 9);
    Check.refuses("29 below", x, Check.INDEX, () -> x.range(-1, true));
    Check.refuses("29 none", x, Check.INDEX, () -> x.range(2, false));
    x.order(0, 0, 1, 0);
    x.settle();
    x.choose(1, 3);
    x.settle();
    Check.same("29 told", x.range(0, true) + " " + x.range(1, true), "63 8");
    Check.same("29 ranges", x.range(0, false) + " " + x.range(1, false), "15 8");
  }

  private static void promise30() {
    Wishsolver x = Check.with(7, 63, 7);
    x.suppose();
    x.order(1, 2, 0, 0);
    x.suppose();
    x.slope(6, 7);
    Check.refuses("30 below", x, Check.INDEX, () -> x.ofRule(-1, 7));
    Check.refuses("30 none", x, Check.INDEX, () -> x.ofRule(2, 0));
    Check.refuses("30 what", x, Check.ARGUMENT, () -> x.ofRule(0, 7));
    Check.refuses("30 what below", x, Check.ARGUMENT, () -> x.ofRule(1, -1));
    Check.same("30 hard", Check.rule(x, 0), "5 3 0 1 1 1 7");
    Check.same("30 soft", Check.rule(x, 1), "10 6 7 2 1 13 0");
    x.settle();
    x.solutions();
    Check.same("30 by ranges, not as told", x.ofRule(0, 5) + " " + x.ofRule(1, 6), "1 1");
    Check.same("30 settled", Check.rule(x, 0) + "; " + Check.rule(x, 1), "5 3 0 1 0 1 0; 10 6 7 2 0 2 1");
    x.often(7, 5, 1, 6, 0);
    x.settle();
    Check.same("30 failed", Check.rule(x, 0) + "; " + Check.rule(x, 1), "5 3 0 1 0 0 0; 10 6 7 2 0 0 0");
    String kinds = "";
    Wishsolver y = Check.with(3, 3, 3);
    y.term(0, 1);
    y.sum(0, 0, 1);
    y.product(0, 1, 2, 2);
    y.distance(0, 1, 2, 3);
    y.row(0, 0, 0);
    y.element(0, 1, 4);
    y.row(0, 0, 0);
    y.table(0, 1, 2, 5);
    y.order(0, 0, 1, 6);
    y.unlike(3, 7);
    y.often(1, 0, 0, 0, 8);
    y.ring(3, false, 9);
    y.ring(3, true, 1);
    y.slope(3, 2);
    for (int i = 0; i < 11; i++) kinds += y.ofRule(i, 0) + ":" + y.ofRule(i, 1) + ":" + y.ofRule(i, 2) + " ";
    Check.same("30 kinds", kinds, "0:1:1 1:7:2 2:7:3 3:3:4 4:7:5 5:3:6 6:3:7 7:1:8 8:3:9 9:3:1 10:3:2 ");
  }

  private static void promise31() {
    Wishsolver x = Check.with(7, 7);
    Check.same("31 none", x.waiting(), "-");
    for (int i = 0; i < 12; i++) x.often(1 + i % 2, 5, 0, 6, i % 3);
    Check.same("31 all", x.waiting(), "0 1 2 3 4 5 6 7 8 9 10 11");
    x.look();
    x.look();
    x.take(0, 1);
    Check.same("31 comes behind all", x.waiting(), "2 3 4 5 6 7 8 9 10 11 0");
    x.settle();
    Check.same("31 none again", x.waiting(), "-");
  }

  private static void promise32() {
    Wishsolver x = new Wishsolver();
    Check.same("32 without variables", x.solutions(), 1);
    x.variable(63);
    x.variable(9);
    Check.same("32 all", x.solutions(), 12);
    x.order(0, 2, 1, 0);
    x.often(3, 0, 2, 6, 9);
    Check.same("32 by the hard ones", x.solutions(), 2);
    x.settle();
    Check.same("32 by what is told", x.solutions(), 2);
    x.take(0, 0);
    Check.same("32 taken", x.solutions(), 1);
    x.choose(0, 1);
    x.take(1, 0);
    x.often(1, 1, 0, 0, 0);
    Check.same("32 none", x.solutions(), 0);
    x.back();
    Check.same("32 taken back", x.solutions(), 1);
  }

  private static void promise33() {
    Wishsolver x = Check.with(36, 3, 40);
    Check.same("33 in order", Check.solutions(x), "2 0 3, 2 0 5, 2 1 3, 2 1 5, 5 0 3, 5 0 5, 5 1 3, 5 1 5");
    Check.refuses("33 below", x, Check.NO_ELEMENT, () -> x.solution(-1));
    Check.refuses("33 not so many", x, Check.NO_ELEMENT, () -> x.solution(8));
    x.unlike(5, 0);
    x.take(1, 0);
    Check.same("33 by rules", Check.solutions(x), "2 1 3, 2 1 5, 5 1 3");
    Check.refuses("33 no longer so many", x, Check.NO_ELEMENT, () -> x.solution(3));
    Wishsolver y = new Wishsolver();
    Check.same("33 nothing in it", y.solution(0), "");
    Check.refuses("33 one alone", y, Check.NO_ELEMENT, () -> y.solution(1));
  }

  private static void promise34() {
    Wishsolver x = Check.with(7, 7);
    Check.same("34 no cost", x.cost(8), 0);
    x.unlike(3, 4);
    x.order(0, 1, 1, 3);
    x.often(3, 2, 0, 1, 0);
    Check.same("34 prices", x.cost(0) + " " + x.cost(1) + " " + x.cost(3), "7 0 3");
    Check.terms(x, -4, 3);
    x.goal();
    Check.same("34 and the goal", x.cost(4) + " " + x.cost(6) + " " + x.cost(2), "6 -5 6");
    Check.refuses("34 below", x, Check.NO_ELEMENT, () -> x.cost(-1));
    Check.refuses("34 not so many", x, Check.NO_ELEMENT, () -> x.cost(8));
    x.settle();
    Check.same("34 also settled", x.cost(6), -5);
  }

  private static void promise35() {
    Wishsolver x = new Wishsolver();
    x.puzzle(0, 5);
    Check.same("35 queens", x.unlikes(0) + " " + x.unlikes(1) + " " + x.unlikes(2) + " " + x.unlikes(3), "10 5 5 3");
    Check.refuses("35 below", x, Check.ARGUMENT, () -> x.unlikes(-1));
    Check.refuses("35 above", x, Check.ARGUMENT, () -> x.unlikes(4));
    Wishsolver y = Check.with(3, 6);
    Check.same("35 turned it may be none", y.unlikes(0) + " " + y.unlikes(1) + " " + y.unlikes(2), "4 4 4");
    Check.same("35 alike by both at once alone", y.unlikes(3) + " " + y.alike(0, 3) + " " + y.alike(0, 1), "3 2 1");
    y.order(0, 2, 1, 0);
    Check.same("35 one alone", y.unlikes(3), 1);
    y.often(1, 5, 1, 6, 0);
    Check.same("35 none", y.unlikes(3), 0);
    Check.same("35 without variables", new Wishsolver().unlikes(3), 1);
  }

  private static void promise36() {
    Wishsolver x = Check.with(7, 7);
    Check.same("36 all four", x.alike(1, 3) + " " + x.alike(1, 0) + " " + x.alike(1, 1) + " " + x.alike(1, 2), "4 1 2 2");
    Check.same("36 the same turned", x.alike(0, 1) + " " + x.alike(0, 2) + " " + x.alike(0, 3) + " " + x.alike(4, 3), "1 2 2 1");
    Check.same("36 both give the same", x.alike(2, 3) + " " + x.alike(2, 1), "2 2");
    Check.refuses("36 mirrors", x, Check.ARGUMENT, () -> x.alike(9, 4));
    Check.refuses("36 mirrors below", x, Check.ARGUMENT, () -> x.alike(-1, -1));
    Check.refuses("36 below", x, Check.NO_ELEMENT, () -> x.alike(-1, 0));
    Check.refuses("36 not so many", x, Check.NO_ELEMENT, () -> x.alike(9, 3));
    x.order(0, 1, 1, 0);
    Check.same("36 no solution, not alike", x.alike(0, 3) + " " + x.alike(0, 1) + " " + x.alike(0, 2), "2 1 1");
    Wishsolver y = Check.with(1, 32);
    for (int[] sets : new int[][] {{33, 12, 12}, {12, 33, 12}, {12, 12, 33}}) {
      Wishsolver t = Check.with(sets);
      Check.same("36 the top of any", t.alike(0, 2) + " " + t.unlikes(2), "2 4");
    }
    Check.same("36 the top of all", y.alike(0, 3) + " " + y.alike(0, 2) + " " + y.alike(0, 1), "1 1 1");
    Wishsolver z = Check.with(11, 26);
    Check.same("36 told unlike", z.solution(4) + ": " + z.alike(4, 1) + " " + z.alike(4, 2) + " " + z.alike(4, 3), "1 3: 2 2 2");
  }

  private static void promise37() {
    Wishsolver x = Check.with(7, 7);
    Check.same("37 all the same", x.best(false) + " " + x.best(true), "0 0");
    Check.terms(x, 1, -2);
    x.goal();
    x.order(1, 0, 0, 5);
    Check.same("37 least", x.best(false) + " " + x.best(true), "-2 8");
    x.take(0, 2);
    Check.same("37 first of them", x.best(false) + " " + x.best(true), "-1 4");
    Wishsolver w = Check.with(15);
    w.term(0, 1);
    w.goal();
    w.often(1, 0, 0, 0, 2);
    w.often(1, 1, 0, 0, 6);
    Check.same("37 neither the last that is better nor the next", w.best(false) + " " + w.best(true), "2 0");
    x.choose(0, 0);
    x.drop(x.often(1, 1, 0, 1, 0));
    Check.same("37 at a level", x.best(false) + " " + x.best(true), "0 0");
    x.often(1, 1, 1, 1, 0);
    Check.refuses("37 none", x, Check.NO_ELEMENT, () -> x.best(true));
    Check.refuses("37 no cost", x, Check.NO_ELEMENT, () -> x.best(false));
    x.back();
    Check.same("37 taken back", x.best(false), -1);
    Check.same("37 without variables", new Wishsolver().best(false), 0);
  }

  private static void promise38() {
    Wishsolver x = Check.with(7, 7, 7);
    Check.refuses("38 there is one", x, Check.STATE, () -> x.core());
    x.order(0, 1, 1, 0);
    x.order(1, 1, 2, 0);
    x.often(7, 2, 0, 1, 0);
    x.often(7, 0, 0, 0, 9);
    Check.refuses("38 soft ones do not tell", x, Check.STATE, () -> x.core());
    x.order(1, 0, 0, 0);
    Check.same("38 two of them", x.core(), "0 4");
    x.order(2, 0, 0, 0);
    Check.same("38 still the same two", x.core(), "0 4");
    x.drop(4);
    Check.same("38 three", x.core(), "0 1 4");
    x.often(1, 5, 1, 1, 0);
    Check.same("38 one alone", x.core(), "5");
    Wishsolver y = Check.with(3, 3);
    y.often(3, 0, 0, 0, 0);
    y.take(0, 1);
    Check.same("38 by what is told", y.core(), "0");
    for (int i = 1; i < 12; i++) y.unlike(3, 0);
    y.drop(0);
    y.take(1, 1);
    Check.same("38 the last of those alike", y.core(), "10");
    Wishsolver z = Check.with(3);
    z.often(1, 0, 1, 1, 5);
    z.often(1, 1, 1, 1, 0);
    Check.refuses("38 the first one is soft", z, Check.STATE, () -> z.core());
    z.often(1, 0, 1, 1, 0);
    Check.same("38 without the soft one", z.core() + " " + z.tights(2), "1 2 1");
  }

  private static void promise39() {
    Wishsolver x = Check.with(7, 7, 7);
    x.order(0, 1, 1, 0);
    x.order(1, 1, 2, 0);
    x.order(2, 0, 0, 0);
    x.order(1, 0, 0, 0);
    x.often(1, 0, 0, 0, 0);
    x.often(1, 5, 1, 1, 4);
    Check.refuses("39 below", x, Check.ARGUMENT, () -> x.tights(-1));
    Check.refuses("39 above", x, Check.ARGUMENT, () -> x.tights(5));
    Check.same("39 sizes", x.tights(0) + " " + x.tights(1) + " " + x.tights(2) + " " + x.tights(3) + " " + x.tights(4), "0 0 1 2 0");
    x.often(2, 5, 1, 6, 0);
    Check.same("39 one alone", x.tights(1) + " " + x.tights(2), "1 1");
    Wishsolver y = Check.with(15);
    for (int i = 0; i < 4; i++) y.often(1, i, 0, 0, 0);
    Check.same("39 four", y.tights(4) + " " + y.tights(3), "1 0");
    y.take(0, 3);
    Check.same("39 three", y.tights(4) + " " + y.tights(3), "0 1");
    Check.same("39 no rule", Check.with(3).tights(0) + new Wishsolver().tights(1), 0);
  }
}
