/** Promises 1 to 19: variables and rules. */
public final class RulesTest {
  public static void main(String[] args) {
    promise1();
    promise2();
    promise2Product();
    promise3();
    promise4();
    promise5();
    promise6();
    promise7();
    promise8();
    promise9();
    promise10();
    promise11();
    promise12();
    promise13();
    promise14();
    promise15();
    promise16();
    promise17();
    promise18();
    promise19();
    Check.end("RulesTest");
  }

  private static void promise1() {
    Wishsolver x = new Wishsolver();
    for (int i = 0; i <= 11; i++) Check.same("1 house " + i, x.house(i), 0);
    for (int i = 0; i <= 6; i++) Check.same("1 search " + i, x.search(i), 0);
    Check.same("1 waiting", x.waiting(), "-");
    Check.same("1 solutions", x.solutions(), 1);
    Check.same("1 solution", x.solution(0), "");
    Check.same("1 sound", x.isSound(), true);
    Check.same("1 objects are apart", Check.with(3).house(0) + new Wishsolver().house(0), 1);
  }

  private static void promise2() {
    Wishsolver x = new Wishsolver();
    Check.same("2 the first", x.variable(63), 0);
    Check.same("2 the second", x.variable(1), 1);
    Check.same("2 sets", Check.ranges(x, 0) + " " + Check.ranges(x, 1), "63/63 1/1");
    for (int set : new int[] {0, 64, -1, Integer.MIN_VALUE, Integer.MAX_VALUE}) {
      Check.refuses("2 set " + set, x, Check.ARGUMENT, () -> x.variable(set));
    }
    for (int i = 2; i < 6; i++) Check.same("2 number", x.variable(2), i);
    Check.refuses("2 the seventh", x, Check.STATE, () -> x.variable(1));
    Check.refuses("2 the seventh with no set", x, Check.ARGUMENT, () -> x.variable(0));
    Wishsolver y = Check.with(3);
    y.suppose();
    Check.refuses("2 at level 1", y, Check.STATE, () -> y.variable(1));
    y.back();
    Check.same("2 at level 0 again", y.variable(1), 1);
    Wishsolver z = Check.with(3, 3);
    z.often(3, 0, 3, 6, 0);
    z.settle();
    Check.refuses("2 failed", z, Check.STATE, () -> z.variable(1));
  }

  private static void promise2Product() {
    Wishsolver x = Check.with(63, 63, 63, 63, 63);
    Check.refuses("2 above 7776", x, Check.STATE, () -> x.variable(3));
    Check.same("2 just 7776", x.variable(32), 5);
    Check.same("2 all of them", x.solutions(), 7776);
    Wishsolver y = Check.with(63, 63, 63, 63, 63);
    y.order(0, 1, 1, 0);
    for (int i = 0; i < 3; i++) y.take(0, i);
    Check.same("2 room by what was taken", y.variable(48), 5);
    Check.same("2 rules stay as they are", y.solutions(), 3 * 216 * 2);
    Check.same("2 the last one counts from behind", y.solution(1), "3 4 0 0 0 5");
  }

  private static void promise3() {
    Wishsolver x = Check.with(15, 3, 3);
    x.often(7, 0, 0, 6, 0);
    x.unlike(6, 0);
    x.unlike(3, 5);
    x.settle();
    Check.same("3 answer", x.take(0, 2), 3);
    Check.same("3 both sets", Check.ranges(x, 0), "11/11");
    Check.same("3 who waits", x.waiting(), "0 2");
    Check.refuses("3 no variable", x, Check.INDEX, () -> x.take(3, 9));
    Check.refuses("3 no variable below", x, Check.INDEX, () -> x.take(-1, 0));
    Check.refuses("3 no value above", x, Check.ARGUMENT, () -> x.take(0, 6));
    Check.refuses("3 no value below", x, Check.ARGUMENT, () -> x.take(0, -1));
    Check.refuses("3 far above", x, Check.ARGUMENT, () -> x.take(0, 32));
    Check.refuses("3 taken", x, Check.ARGUMENT, () -> x.take(0, 2));
    x.take(1, 0);
    Check.refuses("3 the last one", x, Check.ARGUMENT, () -> x.take(1, 1));
    x.settle();
    Check.same("3 not in the range", x.take(2, 1), 1);
    Check.same("3 nobody comes by the told set", x.waiting(), "-");
    Wishsolver y = Check.with(7, 7);
    y.order(0, 2, 1, 0);
    y.settle();
    y.suppose();
    Check.same("3 it fails", y.take(0, 0), 0);
    Check.same("3 all is empty", Check.ranges(y, 0) + " " + Check.ranges(y, 1) + y.waiting(), "6/0 7/0-");
    Check.same("3 failed it goes on", y.take(1, 2), 0);
    Check.same("3 told only", Check.ranges(y, 1), "3/0");
    y.back();
    Check.same("3 taken back", Check.ranges(y, 0) + " " + Check.ranges(y, 1), "7/1 7/4");
  }

  private static void promise4() {
    Wishsolver x = Check.with(3, 3, 3);
    Check.same("4 first", x.term(1, -4), 1);
    Check.same("4 second", x.term(0, 4), 2);
    Check.refuses("4 no variable", x, Check.INDEX, () -> x.term(3, 9));
    Check.refuses("4 below", x, Check.INDEX, () -> x.term(-1, 1));
    Check.refuses("4 weight 5 of one that is there", x, Check.ARGUMENT, () -> x.term(1, 5));
    Check.refuses("4 weight -5", x, Check.ARGUMENT, () -> x.term(2, -5));
    Check.refuses("4 twice", x, Check.STATE, () -> x.term(1, 1));
    Check.same("4 nought", x.term(2, 0), 3);
    x.sum(1, 4, 0);
    Check.same("4 its weights", Check.solutions(x), "1 0 0, 1 0 1");
    Check.same("4 also with nought its variable", x.ofRule(0, 1), 7);
  }

  private static void promise5() {
    Wishsolver x = Check.with(63, 63);
    for (int i = 1; i <= 12; i++) Check.same("5 row", x.row(i % 6, 5, 0), i);
    Check.refuses("5 the 13th", x, Check.STATE, () -> x.row(0, 0, 0));
    Check.refuses("5 the 13th with a", x, Check.ARGUMENT, () -> x.row(6, 0, 0));
    Wishsolver y = Check.with(63, 63);
    Check.refuses("5 a", y, Check.ARGUMENT, () -> y.row(-1, 0, 0));
    Check.refuses("5 b", y, Check.ARGUMENT, () -> y.row(0, 6, 0));
    Check.refuses("5 b below", y, Check.ARGUMENT, () -> y.row(0, -1, 0));
    Check.refuses("5 c", y, Check.ARGUMENT, () -> y.row(0, 0, 6));
    Check.refuses("5 c below", y, Check.ARGUMENT, () -> y.row(0, 0, -1));
    Check.same("5 edges", y.row(5, 0, 5), 1);
  }

  private static void promise6() {
    Wishsolver x = Check.with(3, 3);
    Check.same("6 empty", x.wipe(), 0);
    Check.terms(x, 1, 1);
    x.row(1, 1, 1);
    x.row(1, 1, 1);
    x.row(1, 1, 1);
    Check.same("6 both", x.wipe(), 5);
    Check.same("6 gone", x.house(6) + x.house(7), 0);
    Check.same("6 free again", x.term(0, 2), 1);
    Check.terms(x, 0, 1);
    x.sum(2, 2, 0);
    Check.same("6 old weights are gone", Check.solutions(x), "1 0");
  }

  private static void promise7() {
    Wishsolver x = Check.with(15, 15);
    x.row(0, 0, 0);
    Check.refuses("7 no term", x, Check.STATE, () -> x.sum(0, 0, 0));
    Check.refuses("7 no term and no relation", x, Check.ARGUMENT, () -> x.sum(3, 0, 0));
    Check.terms(x, 2, -1);
    Check.refuses("7 relation", x, Check.ARGUMENT, () -> x.sum(-1, 0, 0));
    Check.refuses("7 bound 101", x, Check.ARGUMENT, () -> x.sum(0, 101, 0));
    Check.refuses("7 bound -101", x, Check.ARGUMENT, () -> x.sum(0, -101, 0));
    Check.refuses("7 price 10", x, Check.ARGUMENT, () -> x.sum(0, 0, 10));
    Check.refuses("7 price -1", x, Check.ARGUMENT, () -> x.sum(0, 0, -1));
    Check.same("7 number", x.sum(2, 1, 0), 0);
    Check.same("7 the slip", x.house(6) + " " + x.house(7), "0 1");
    Check.same("7 just", Check.solutions(x), "1 1, 2 3");
    Check.same("7 the rule", Check.rule(x, 0), "0 3 0 0 1 2 4");
    Check.terms(x, 1, 1);
    Check.same("7 at least", x.sum(1, 5, 0), 1);
    Check.same("7 both", Check.solutions(x), "2 3");
    Wishsolver w = Check.with(7, 7);
    Check.terms(w, 1, 1);
    w.sum(1, 3, 0);
    Check.same("7 just, and more", Check.solutions(w), "1 2, 2 1, 2 2");
    Check.terms(x, 1, 1);
    x.sum(0, 2, 9);
    Check.same("7 dear", x.cost(0), 9);
    Check.terms(x, -4);
    x.sum(0, -100, 0);
    Check.same("7 edge", x.solutions(), 0);
    Check.terms(x, 0, 4);
    x.sum(1, 100, 1);
    Wishsolver y = Check.with(15, 15);
    Check.terms(y, 1, 1);
    y.sum(0, 1, 0);
    Check.same("7 at most", Check.solutions(y), "0 0, 0 1, 1 0");
    Wishsolver z = Check.full(3);
    z.term(0, 1);
    Check.refuses("7 12 rules", z, Check.STATE, () -> z.sum(0, 0, 0));
    Check.refuses("7 12 rules and price", z, Check.ARGUMENT, () -> z.sum(0, 0, 10));
  }

  private static void promise8() {
    Wishsolver x = Check.with(6, 12, 63);
    Check.refuses("8 x", x, Check.INDEX, () -> x.product(3, 3, 3, 10));
    Check.refuses("8 y", x, Check.INDEX, () -> x.product(0, -1, 2, 0));
    Check.refuses("8 z", x, Check.INDEX, () -> x.product(0, 1, 6, 0));
    Check.refuses("8 x y", x, Check.ARGUMENT, () -> x.product(1, 1, 2, 0));
    Check.refuses("8 x z", x, Check.ARGUMENT, () -> x.product(1, 2, 1, 0));
    Check.refuses("8 y z", x, Check.ARGUMENT, () -> x.product(2, 1, 1, 0));
    Check.refuses("8 price", x, Check.ARGUMENT, () -> x.product(0, 1, 2, 10));
    Check.refuses("8 price below", x, Check.ARGUMENT, () -> x.product(0, 1, 2, -1));
    Check.same("8 number", x.product(0, 1, 2, 0), 0);
    Check.same("8 solutions", Check.solutions(x), "1 2 2, 1 3 3, 2 2 4");
    Check.same("8 the rule", Check.rule(x, 0), "1 7 0 0 1 3 3");
    Check.same("8 turned", x.product(2, 0, 1, 4), 1);
    Check.same("8 its price", x.cost(0) + " " + x.cost(2), "0 4");
    Wishsolver y = Check.full(3, 3, 3);
    Check.refuses("8 12 rules", y, Check.STATE, () -> y.product(0, 1, 2, 0));
    Check.refuses("8 12 rules and the same", y, Check.ARGUMENT, () -> y.product(0, 1, 1, 0));
  }

  private static void promise9() {
    Wishsolver x = Check.with(33, 6, 63);
    Check.refuses("9 x", x, Check.INDEX, () -> x.distance(-1, 3, 3, 10));
    Check.refuses("9 y", x, Check.INDEX, () -> x.distance(0, 3, 0, 0));
    Check.refuses("9 z", x, Check.INDEX, () -> x.distance(0, 1, 3, 0));
    Check.refuses("9 x y", x, Check.ARGUMENT, () -> x.distance(0, 0, 2, 0));
    Check.refuses("9 x z", x, Check.ARGUMENT, () -> x.distance(0, 1, 0, 0));
    Check.refuses("9 y z", x, Check.ARGUMENT, () -> x.distance(0, 1, 1, 0));
    Check.refuses("9 price", x, Check.ARGUMENT, () -> x.distance(0, 1, 2, 10));
    Check.refuses("9 price below", x, Check.ARGUMENT, () -> x.distance(0, 1, 2, -1));
    Check.same("9 number", x.distance(0, 1, 2, 0), 0);
    Check.same("9 solutions", Check.solutions(x), "0 1 1, 0 2 2, 5 1 4, 5 2 3");
    Check.same("9 the rule", Check.rule(x, 0), "2 7 0 0 1 4 2");
    Wishsolver y = Check.full(3, 3, 3);
    Check.refuses("9 12 rules", y, Check.STATE, () -> y.distance(0, 1, 2, 0));
    Check.refuses("9 12 rules and price", y, Check.ARGUMENT, () -> y.distance(0, 1, 2, 11));
  }

  private static void promise10() {
    Wishsolver x = Check.with(63, 63);
    Check.refuses("10 no row", x, Check.STATE, () -> x.element(0, 1, 0));
    x.row(4, 1, 2);
    x.row(2, 3, 4);
    x.row(4, 0, 0);
    x.term(0, 1);
    Check.refuses("10 x", x, Check.INDEX, () -> x.element(2, 2, 10));
    Check.refuses("10 x alone", x, Check.INDEX, () -> x.element(2, 0, 0));
    Check.refuses("10 x below", x, Check.INDEX, () -> x.element(-1, 0, 0));
    Check.refuses("10 y", x, Check.INDEX, () -> x.element(0, -1, 0));
    Check.refuses("10 the same", x, Check.ARGUMENT, () -> x.element(1, 1, 0));
    Check.refuses("10 price", x, Check.ARGUMENT, () -> x.element(0, 1, 10));
    Check.refuses("10 price below", x, Check.ARGUMENT, () -> x.element(0, 1, -1));
    Check.same("10 number", x.element(0, 1, 0), 0);
    Check.same("10 solutions", Check.solutions(x), "0 4, 1 2, 2 4");
    Check.same("10 the rule", Check.rule(x, 0), "3 3 0 0 1 3 7");
    Check.same("10 the slip", x.house(6) + " " + x.house(7), "1 0");
    x.row(1, 0, 0);
    x.element(1, 0, 3);
    Check.same("10 its own rows", Check.solutions(x) + x.cost(1), "0 4, 1 2, 2 43");
    x.drop(0);
    x.row(5, 0, 0);
    x.row(3, 0, 0);
    x.element(1, 0, 0);
    Check.same("10 turned", Check.solutions(x), "3 1, 5 0");
    Wishsolver y = Check.full(3, 3);
    y.row(1, 1, 1);
    Check.refuses("10 12 rules", y, Check.STATE, () -> y.element(0, 1, 0));
    Check.refuses("10 12 rules, the same", y, Check.ARGUMENT, () -> y.element(0, 0, 0));
  }

  private static void promise11() {
    Wishsolver x = Check.with(63, 7, 63);
    Check.refuses("11 no row", x, Check.STATE, () -> x.table(0, 1, 2, 0));
    x.row(4, 1, 2);
    x.row(2, 3, 4);
    x.row(4, 1, 2);
    x.row(0, 2, 5);
    x.term(0, 1);
    Check.refuses("11 x", x, Check.INDEX, () -> x.table(3, 3, 3, 10));
    Check.refuses("11 y", x, Check.INDEX, () -> x.table(0, 3, 0, 0));
    Check.refuses("11 z", x, Check.INDEX, () -> x.table(0, 1, -1, 0));
    Check.refuses("11 x y", x, Check.ARGUMENT, () -> x.table(1, 1, 0, 0));
    Check.refuses("11 x z", x, Check.ARGUMENT, () -> x.table(1, 0, 1, 0));
    Check.refuses("11 y z", x, Check.ARGUMENT, () -> x.table(0, 1, 1, 0));
    Check.refuses("11 price", x, Check.ARGUMENT, () -> x.table(0, 1, 2, 10));
    Check.refuses("11 price below", x, Check.ARGUMENT, () -> x.table(0, 1, 2, -1));
    Check.same("11 number", x.table(0, 1, 2, 0), 0);
    Check.same("11 solutions", Check.solutions(x), "0 2 5, 4 1 2");
    Check.same("11 the rule", Check.rule(x, 0), "4 7 0 0 1 2 9");
    Check.same("11 the slip", x.house(6) + " " + x.house(7), "1 0");
    x.row(5, 0, 2);
    x.table(2, 0, 1, 6);
    Check.same("11 turned", x.cost(0) + " " + x.cost(1), "0 6");
    Wishsolver y = Check.full(3, 3, 3);
    y.row(1, 1, 1);
    Check.refuses("11 12 rules", y, Check.STATE, () -> y.table(0, 1, 2, 0));
    Check.refuses("11 12 rules, the same", y, Check.ARGUMENT, () -> y.table(0, 0, 2, 0));
  }

  private static void promise12() {
    Wishsolver x = Check.with(7, 7);
    Check.refuses("12 x", x, Check.INDEX, () -> x.order(2, 9, 2, 10));
    Check.refuses("12 x alone", x, Check.INDEX, () -> x.order(2, 0, 0, 0));
    Check.refuses("12 x below", x, Check.INDEX, () -> x.order(-1, 0, 0, 0));
    Check.refuses("12 y", x, Check.INDEX, () -> x.order(0, 0, -1, 0));
    Check.refuses("12 the same", x, Check.ARGUMENT, () -> x.order(1, 0, 1, 0));
    Check.refuses("12 c", x, Check.ARGUMENT, () -> x.order(0, 6, 1, 0));
    Check.refuses("12 c below", x, Check.ARGUMENT, () -> x.order(0, -6, 1, 0));
    Check.refuses("12 price", x, Check.ARGUMENT, () -> x.order(0, 0, 1, 10));
    Check.refuses("12 price below", x, Check.ARGUMENT, () -> x.order(0, 0, 1, -1));
    Check.same("12 edge", x.order(0, -5, 1, 0), 0);
    Check.same("12 all", x.solutions(), 9);
    Check.same("12 number", x.order(1, 1, 0, 0), 1);
    Check.same("12 solutions", Check.solutions(x), "1 0, 2 0, 2 1");
    Check.same("12 the rule", Check.rule(x, 1), "5 3 0 0 1 3 2");
    x.order(0, 5, 1, 7);
    Check.same("12 dear", x.cost(2), 7);
    Wishsolver y = Check.full(3, 3);
    Check.refuses("12 12 rules", y, Check.STATE, () -> y.order(0, 0, 1, 0));
    Check.refuses("12 12 rules and c", y, Check.ARGUMENT, () -> y.order(0, 7, 1, 0));
  }

  private static void promise13() {
    Wishsolver x = Check.with(3, 6, 5);
    for (int set : new int[] {0, 1, 4, 8, 9, -1, 16, Integer.MIN_VALUE}) {
      Check.refuses("13 set " + set, x, Check.INDEX, () -> x.unlike(set, 10));
    }
    Check.refuses("13 price", x, Check.ARGUMENT, () -> x.unlike(7, 10));
    Check.refuses("13 price below", x, Check.ARGUMENT, () -> x.unlike(7, -1));
    Check.same("13 number", x.unlike(7, 0), 0);
    Check.same("13 solutions", Check.solutions(x), "0 1 2, 1 2 0");
    Check.same("13 the rule", Check.rule(x, 0), "6 7 0 0 1 2 0");
    x.unlike(5, 9);
    Check.same("13 two of them", Check.rule(x, 1), "6 5 9 0 1 3 0");
    Wishsolver y = Check.full(3, 3);
    Check.refuses("13 12 rules", y, Check.STATE, () -> y.unlike(3, 0));
    Check.refuses("13 12 rules and price", y, Check.ARGUMENT, () -> y.unlike(3, 10));
  }

  private static void promise14() {
    Wishsolver x = Check.with(3, 3, 3);
    for (int set : new int[] {0, 8, -1, 15}) {
      Check.refuses("14 set " + set, x, Check.INDEX, () -> x.often(set, 6, 0, 0, 0));
    }
    Check.refuses("14 value", x, Check.ARGUMENT, () -> x.often(7, 6, 0, 0, 0));
    Check.refuses("14 value below", x, Check.ARGUMENT, () -> x.often(7, -1, 0, 0, 0));
    Check.refuses("14 least", x, Check.ARGUMENT, () -> x.often(7, 0, -1, 0, 0));
    Check.refuses("14 least 7", x, Check.ARGUMENT, () -> x.often(7, 0, 7, 7, 0));
    Check.refuses("14 most", x, Check.ARGUMENT, () -> x.often(7, 0, 2, 1, 0));
    Check.refuses("14 most 7", x, Check.ARGUMENT, () -> x.often(7, 0, 2, 7, 0));
    Check.refuses("14 price", x, Check.ARGUMENT, () -> x.often(7, 0, 0, 0, 10));
    Check.refuses("14 price below", x, Check.ARGUMENT, () -> x.often(7, 0, 0, 0, -1));
    Check.same("14 number", x.often(7, 1, 1, 1, 0), 0);
    Check.same("14 solutions", Check.solutions(x), "0 0 1, 0 1 0, 1 0 0");
    Check.same("14 the rule", Check.rule(x, 0), "7 7 0 0 1 3 0");
    x.often(1, 0, 1, 6, 0);
    Check.same("14 one variable", Check.solutions(x), "0 0 1, 0 1 0");
    x.often(2, 5, 0, 0, 0);
    Check.same("14 never", x.solutions(), 2);
    x.often(6, 0, 2, 6, 8);
    Check.same("14 dear", x.cost(0), 8);
    x.often(7, 0, 6, 6, 0);
    Check.same("14 too many", x.solutions(), 0);
    Wishsolver y = Check.full(3, 3);
    Check.refuses("14 12 rules", y, Check.STATE, () -> y.often(1, 0, 0, 0, 0));
    Check.refuses("14 12 rules and value", y, Check.ARGUMENT, () -> y.often(1, 6, 0, 0, 0));
  }

  private static void promise15() {
    Wishsolver x = Check.with(15, 15, 15);
    for (int set : new int[] {0, 2, 8, -8, 9}) {
      Check.refuses("15 set " + set, x, Check.INDEX, () -> x.ring(set, false, 10));
    }
    Check.refuses("15 price", x, Check.ARGUMENT, () -> x.ring(7, true, 10));
    Check.refuses("15 price below", x, Check.ARGUMENT, () -> x.ring(7, false, -1));
    x.suppose();
    Check.same("15 number", x.ring(7, false, 0), 0);
    Check.same("15 rings", Check.solutions(x), "1 2 0, 2 0 1");
    Check.same("15 the rule", Check.rule(x, 0), "8 7 0 1 1 2 6");
    x.back();
    x.ring(7, true, 0);
    Check.same("15 paths", Check.solutions(x), "1 2 2, 2 1 1");
    Check.same("15 the path", Check.rule(x, 0), "9 7 0 0 1 2 6");
    Wishsolver y = Check.with(7, 3, 7);
    y.ring(5, true, 0);
    Check.same("15 places, not numbers", Check.solutions(y), "1 0 1, 1 1 1");
    y.ring(5, false, 4);
    Check.same("15 dear", y.cost(1), 4);
    Wishsolver z = Check.with(31, 31, 31, 31);
    z.ring(15, true, 0);
    Check.same("15 all paths", Check.solutions(z), paths());
    Wishsolver f = Check.full(3, 3);
    Check.refuses("15 12 rules", f, Check.STATE, () -> f.ring(3, false, 0));
    Check.refuses("15 12 rules and price", f, Check.ARGUMENT, () -> f.ring(3, false, 10));
  }

  /** The six ways from 0 through 1, 2 and 3, each written as the next place of each place. */
  private static String paths() {
    java.util.TreeSet<String> all = new java.util.TreeSet<>();
    for (int a = 1; a < 4; a++) {
      for (int b = 1; b < 4; b++) {
        int c = 6 - a - b;
        if (a == b) continue;
        int[] next = new int[4];
        next[0] = a;
        next[a] = b;
        next[b] = c;
        next[c] = c;
        all.add(next[0] + " " + next[1] + " " + next[2] + " " + next[3]);
      }
    }
    return String.join(", ", all);
  }

  private static void promise16() {
    Wishsolver x = Check.with(7, 7, 7);
    for (int set : new int[] {0, 4, 8, -1, 11}) {
      Check.refuses("16 set " + set, x, Check.INDEX, () -> x.slope(set, 10));
    }
    Check.refuses("16 price", x, Check.ARGUMENT, () -> x.slope(7, 10));
    Check.refuses("16 price below", x, Check.ARGUMENT, () -> x.slope(7, -1));
    Check.same("16 number", x.slope(5, 0), 0);
    Check.same("16 the rule", Check.rule(x, 0), "10 5 0 0 1 7 0");
    x.slope(3, 0);
    Check.same("16 both", Check.solutions(x).substring(0, 23), "0 0 0, 0 0 1, 0 2 0, 0 ");
    Check.same("16 how many", x.solutions(), 11);
    x.slope(6, 2);
    Check.same("16 dear", x.cost(1), 2);
    Wishsolver y = Check.full(3, 3);
    Check.refuses("16 12 rules", y, Check.STATE, () -> y.slope(3, 0));
    Check.refuses("16 12 rules and price", y, Check.ARGUMENT, () -> y.slope(3, 10));
  }

  private static void promise17() {
    Wishsolver x = Check.with(7, 7, 7);
    x.order(0, 1, 1, 0);
    x.order(1, 1, 2, 0);
    x.unlike(5, 3);
    x.settle();
    Check.refuses("17 no rule", x, Check.INDEX, () -> x.drop(3));
    Check.refuses("17 below", x, Check.INDEX, () -> x.drop(-1));
    x.take(0, 2);
    Check.same("17 left", x.drop(0), 2);
    Check.same("17 all wait", x.waiting(), "0 1");
    Check.same("17 as told", Check.ranges(x, 0) + " " + Check.ranges(x, 1) + " " + Check.ranges(x, 2), "3/3 7/7 7/7");
    Check.same("17 moved up", Check.rule(x, 0) + "; " + Check.rule(x, 1), "5 6 0 0 1 3 2; 6 5 3 0 1 4 0");
    x.suppose();
    Check.refuses("17 another level", x, Check.STATE, () -> x.drop(0));
    Check.refuses("17 another level, no rule", x, Check.INDEX, () -> x.drop(2));
    x.often(7, 0, 4, 6, 0);
    x.settle();
    Check.same("17 failed", x.house(4), 1);
    Check.same("17 dropped at its level", x.drop(2), 2);
    Check.same("17 failed no more", x.house(4) + " " + x.waiting(), "0 0 1");
    x.back();
    Check.same("17 below it waits as before", x.waiting() + " " + x.house(1), "0 1 2");
    x.drop(1);
    x.drop(0);
    Check.same("17 none left", x.waiting() + x.house(1), "-0");
    Check.same("17 room again", x.unlike(3, 0), 0);
  }

  private static void promise18() {
    Wishsolver x = Check.with(7, 7);
    Check.terms(x, 2, -1);
    x.row(1, 1, 1);
    Check.same("18 terms", x.goal(), 2);
    Check.same("18 the slip", x.house(6) + " " + x.house(7) + " " + x.house(8), "0 1 2");
    Check.same("18 cost", x.cost(2) + " " + x.cost(6), "-2 4");
    x.suppose();
    x.term(1, 4);
    Check.same("18 another", x.goal(), 1);
    x.back();
    Check.same("18 it stays", x.cost(2) + " " + x.cost(6), "8 0");
    Check.same("18 none", x.goal(), 0);
    Check.same("18 no cost", x.cost(2), 0);
  }

  private static void promise19() {
    Wishsolver x = Check.with(3, 3, 12);
    Check.terms(x, 1);
    x.goal();
    Check.terms(x, 1, 1);
    x.row(0, 0, 0);
    x.unlike(3, 0);
    x.begin(false, 0);
    x.step();
    x.draw();
    x.settle();
    x.choose(0, 0);
    Check.refuses("19 kind", x, Check.ARGUMENT, () -> x.puzzle(4, 3));
    Check.refuses("19 kind below", x, Check.ARGUMENT, () -> x.puzzle(-1, 3));
    Check.refuses("19 n 6", x, Check.ARGUMENT, () -> x.puzzle(0, 6));
    Check.refuses("19 n 1", x, Check.ARGUMENT, () -> x.puzzle(3, 1));
    Check.refuses("19 colours of 2", x, Check.ARGUMENT, () -> x.puzzle(2, 2));
    Check.refuses("19 colours of 6", x, Check.ARGUMENT, () -> x.puzzle(2, 6));
    Check.same("19 queens", x.puzzle(0, 5), 2);
    StringBuilder house = new StringBuilder();
    for (int i = 0; i <= 11; i++) house.append(x.house(i)).append(' ');
    Check.same("19 the house", house.toString(), "5 2 0 2 0 25 0 0 0 1 0 1 ");
    Check.same("19 no search", x.search(3) + x.chosen() + x.weight(0), "0-1");
    Check.same("19 the rules", Check.rule(x, 0) + "; " + Check.rule(x, 1), "6 31 0 0 1 120 0; 10 31 0 0 1 " + x.ofRule(1, 5) + " 0");
    Check.same("19 ten ways", x.solutions() + " " + x.solution(0), "10 0 2 4 1 3");
    Check.same("19 ring", x.puzzle(1, 4), 1);
    Check.same("19 six rings", Check.rule(x, 0) + " " + x.solutions(), "8 15 0 0 1 6 4 6");
    Check.same("19 colours", x.puzzle(2, 4), 4);
    Check.same("19 around", x.ofRule(0, 1) + " " + x.ofRule(1, 1) + " " + x.ofRule(2, 1) + " " + x.ofRule(3, 1), "3 6 12 9");
    Check.same("19 84 ways", x.solutions() + " " + x.waiting(), "84 0 1 2 3");
    Check.same("19 colours of 3", x.puzzle(2, 3) + " " + x.solutions(), "3 6");
    Check.same("19 row", x.puzzle(3, 3), 2);
    Check.same("19 two ways", Check.solutions(x) + "; " + Check.rule(x, 1), "0 1 2, 2 1 0; 0 5 0 0 1 3 0");
    Check.same("19 row of 2", x.puzzle(3, 2) + " " + Check.solutions(x), "2 0 1, 1 0");
    Check.same("19 queens of 2", x.puzzle(0, 2) + " " + x.solutions(), "2 0");
    x.take(1, 0);
    x.settle();
    Check.same("19 failed", x.house(4), 1);
    Check.same("19 failed no more", x.puzzle(1, 2) + " " + x.house(4) + " " + Check.solutions(x), "1 0 1 0");
    Check.same("19 more variables", x.variable(63), 2);
    Check.terms(x, 0, 4);
    x.sum(0, 100, 0);
    x.puzzle(3, 4);
    Check.same("19 nothing is left of an older sum", x.ofRule(1, 1) + " " + x.solutions(), "9 8");
    x.puzzle(0, 5);
    x.puzzle(0, 2);
    x.drop(0);
    Check.same("19 nothing is left of older variables", x.house(5) + " " + x.range(1, false), "4 3");
  }
}
