/** The boundaries that the description names, before the promises. */
final class DescriptionEdges {
  private DescriptionEdges() {}

  static void all() {
    opening();
    variables();
    numbers();
    kinds();
    rounds();
    slip();
    solutions();
  }

  private static void opening() {
    Edges.in("What it is");
    Edges.edge("An object is used for at most 512 calls after it has been made", () -> {
      Wishsolver x = new Wishsolver();
      for (int i = 1; i <= 511; i++) Check.same("call " + i, x.draw(), i);
      Check.same("the 512th", x.draw(), 512);
      Wishsolver y = GoingEdges.tooManyLines();
      Wishsolver once = GoingEdges.tooManyLines();
      once.begin(true, -9);
      GoingEdges.finish(once);
      for (int i = 0; i < 35; i++) {
        y.begin(true, -9);
        for (int k = 0; k < 10; k++) y.run(12);
        Check.same("the same search again", y.search(0) + " " + y.found() + " " + y.right(), "1 " + once.found() + " 40");
      }
      Wishsolver z = Check.with(7, 7, 7);
      for (int i = 0; i < 100; i++) {
        z.suppose();
        z.term(0, 1);
        z.sum(0, 1, i % 3);
        z.settle();
        z.back();
      }
      Check.same("a hundred rules came and went", z.house(1) + " " + z.waiting() + " " + z.solutions(), "0 - 27");
    });
    Edges.in("Description");
    Edges.edge("NONE is -1", () -> {
      Wishsolver x = Check.with(3);
      Check.same("with a solution", x.digest(), Check.checksum(x));
      x.often(1, 0, 2, 6, 0);
      Check.same("without one", x.solutions() + " " + x.digest(), "0 " + Check.checksum(x));
    });
    Edges.edge("A set is the sum of 2^k for the numbers k in it", () -> {
      Wishsolver x = Check.with(33, 1, 1, 1, 1, 32);
      Check.same("values", Check.solutions(x), "0 0 0 0 0 5, 5 0 0 0 0 5");
      x.unlike(33, 0);
      Check.same("variables", x.ofRule(0, 1) + " " + Check.solutions(x), "33 0 0 0 0 0 5");
      x.choose(0, 0);
      Check.same("one alone", x.range(0, true) + " " + x.range(5, true), "1 32");
    });
    Edges.edge("it is that with the smallest number", () -> {
      Wishsolver x = Check.with(12, 12, 12);
      Check.same("best", x.best(true), 0);
      x.begin(false, 0);
      x.step();
      Check.same("a choice", x.chosen(), "0=2");
    });
    Edges.edge("A method that throws an exception changes nothing", DescriptionEdges::refusals);
    Edges.edge("If several exceptions apply, the one that is named first is thrown", DescriptionEdges::named);
  }

  /** A house in which there is something of all, and that refuses at each of its methods. */
  private static Wishsolver rich() {
    Wishsolver x = Check.with(7, 7, 7);
    x.unlike(7, 0);
    x.order(0, 1, 1, 3);
    x.term(2, -1);
    x.goal();
    x.begin(true, 5);
    x.run(2);
    x.choose(0, 1);
    x.look();
    x.suppose();
    x.often(4, 2, 0, 1, 0);
    x.term(1, 4);
    x.row(1, 2, 3);
    x.draw();
    return x;
  }

  private static void refusals() {
    Wishsolver x = rich();
    Check.refuses("variable", x, Check.STATE, () -> x.variable(1));
    Check.refuses("take", x, Check.ARGUMENT, () -> x.take(0, 1));
    Check.refuses("term", x, Check.STATE, () -> x.term(1, 1));
    Check.refuses("row", x, Check.ARGUMENT, () -> x.row(0, 0, 6));
    Check.refuses("sum", x, Check.ARGUMENT, () -> x.sum(0, 101, 0));
    Check.refuses("product", x, Check.ARGUMENT, () -> x.product(0, 1, 1, 0));
    Check.refuses("distance", x, Check.INDEX, () -> x.distance(0, 1, 3, 0));
    Check.refuses("element", x, Check.ARGUMENT, () -> x.element(0, 1, 10));
    Check.refuses("table", x, Check.ARGUMENT, () -> x.table(0, 1, 2, 10));
    Check.refuses("order", x, Check.ARGUMENT, () -> x.order(0, 6, 1, 0));
    Check.refuses("unlike", x, Check.ARGUMENT, () -> x.unlike(7, 10));
    Check.refuses("often", x, Check.ARGUMENT, () -> x.often(7, 0, 2, 1, 0));
    Check.refuses("ring", x, Check.INDEX, () -> x.ring(1, true, 0));
    Check.refuses("slope", x, Check.INDEX, () -> x.slope(8, 0));
    Check.refuses("drop", x, Check.STATE, () -> x.drop(0));
    Check.refuses("puzzle", x, Check.ARGUMENT, () -> x.puzzle(2, 2));
    Check.refuses("choose", x, Check.ARGUMENT, () -> x.choose(0, 0));
    Check.refuses("begin", x, Check.ARGUMENT, () -> x.begin(true, 1001));
    Check.refuses("run", x, Check.ARGUMENT, () -> x.run(13));
    Check.refuses("range", x, Check.INDEX, () -> x.range(3, true));
    Check.refuses("ofRule", x, Check.ARGUMENT, () -> x.ofRule(0, 7));
    Check.refuses("solution", x, Check.NO_ELEMENT, () -> x.solution(2));
    Check.refuses("cost", x, Check.NO_ELEMENT, () -> x.cost(2));
    Check.refuses("unlikes", x, Check.ARGUMENT, () -> x.unlikes(4));
    Check.refuses("alike", x, Check.NO_ELEMENT, () -> x.alike(2, 0));
    Check.refuses("core", x, Check.STATE, () -> x.core());
    Check.refuses("tights", x, Check.ARGUMENT, () -> x.tights(5));
    Check.refuses("search", x, Check.ARGUMENT, () -> x.search(7));
    Check.refuses("line", x, Check.INDEX, () -> x.line(0));
    Check.refuses("weight", x, Check.INDEX, () -> x.weight(3));
    Check.refuses("found", x, Check.NO_ELEMENT, () -> x.found());
    Check.refuses("house", x, Check.ARGUMENT, () -> x.house(12));
    for (int i = 0; i < 4; i++) x.suppose();
    Check.refuses("suppose", x, Check.STATE, () -> x.suppose());
    for (int i = 0; i < 6; i++) x.back();
    Check.refuses("back", x, Check.STATE, () -> x.back());
    x.settle();
    Check.refuses("look", x, Check.NO_ELEMENT, () -> x.look());
    x.often(1, 5, 1, 1, 0);
    Check.refuses("best", x, Check.NO_ELEMENT, () -> x.best(true));
  }

  /** Each pair of exceptions that a method can owe at once. */
  private static void named() {
    Wishsolver x = Check.full(7, 7, 7);
    Check.refuses("variable: set, level", level1(), Check.ARGUMENT, () -> level1().variable(64));
    Check.refuses("take: variable, value", x, Check.INDEX, () -> x.take(3, 6));
    x.term(0, 1);
    Check.refuses("term: variable, weight", x, Check.INDEX, () -> x.term(3, 5));
    Check.refuses("term: weight, it has it", x, Check.ARGUMENT, () -> x.term(0, 5));
    Check.refuses("sum: relation, 12 rules", x, Check.ARGUMENT, () -> x.sum(3, 0, 0));
    Check.refuses("sum: bound, 12 rules", x, Check.ARGUMENT, () -> x.sum(0, -101, 0));
    Check.refuses("sum: price, 12 rules", x, Check.ARGUMENT, () -> x.sum(0, 0, -1));
    Check.refuses("product: z, the same", x, Check.INDEX, () -> x.product(0, 0, 3, 0));
    Check.refuses("product: x, price", x, Check.INDEX, () -> x.product(-1, 0, 1, 10));
    Check.refuses("product: the same, 12 rules", x, Check.ARGUMENT, () -> x.product(0, 1, 0, 0));
    Check.refuses("product: price, 12 rules", x, Check.ARGUMENT, () -> x.product(0, 1, 2, 10));
    Check.refuses("product: y, 12 rules", x, Check.INDEX, () -> x.product(0, 3, 2, 0));
    Check.refuses("distance: z, the same", x, Check.INDEX, () -> x.distance(1, 1, 3, 0));
    Check.refuses("distance: y, price", x, Check.INDEX, () -> x.distance(0, 3, 1, -1));
    Check.refuses("distance: the same, 12 rules", x, Check.ARGUMENT, () -> x.distance(0, 1, 1, 0));
    Check.refuses("distance: price, 12 rules", x, Check.ARGUMENT, () -> x.distance(0, 1, 2, 10));
    Check.refuses("distance: x, 12 rules", x, Check.INDEX, () -> x.distance(3, 1, 2, 0));
    Check.refuses("element: x and y, the same", x, Check.INDEX, () -> x.element(3, 3, 0));
    Check.refuses("element: y, price", x, Check.INDEX, () -> x.element(0, 3, 10));
    Check.refuses("element: the same, no row", x, Check.ARGUMENT, () -> x.element(1, 1, 0));
    Check.refuses("element: price, no row", x, Check.ARGUMENT, () -> x.element(0, 1, 10));
    Check.refuses("element: x, no row", x, Check.INDEX, () -> x.element(-1, 1, 0));
    Check.refuses("table: z, the same", x, Check.INDEX, () -> x.table(1, 1, 3, 0));
    Check.refuses("table: x, price", x, Check.INDEX, () -> x.table(3, 1, 0, 10));
    Check.refuses("table: the same, no row", x, Check.ARGUMENT, () -> x.table(1, 1, 2, 0));
    Check.refuses("table: price, no row", x, Check.ARGUMENT, () -> x.table(0, 1, 2, -1));
    Check.refuses("table: y, no row", x, Check.INDEX, () -> x.table(0, -1, 2, 0));
    Check.refuses("order: x and y, the same", x, Check.INDEX, () -> x.order(3, 0, 3, 0));
    Check.refuses("order: y, c", x, Check.INDEX, () -> x.order(0, 6, 3, 0));
    Check.refuses("order: x, price", x, Check.INDEX, () -> x.order(3, 0, 1, 10));
    Check.refuses("order: the same, 12 rules", x, Check.ARGUMENT, () -> x.order(1, 0, 1, 0));
    Check.refuses("order: c, 12 rules", x, Check.ARGUMENT, () -> x.order(0, 6, 1, 0));
    Check.refuses("order: price, 12 rules", x, Check.ARGUMENT, () -> x.order(0, 0, 1, 10));
    Check.refuses("unlike: set, price", x, Check.INDEX, () -> x.unlike(1, 10));
    Check.refuses("unlike: set, 12 rules", x, Check.INDEX, () -> x.unlike(8, 0));
    Check.refuses("unlike: price, 12 rules", x, Check.ARGUMENT, () -> x.unlike(7, 10));
    Check.refuses("often: set, value", x, Check.INDEX, () -> x.often(0, 6, 0, 0, 0));
    Check.refuses("often: set, least", x, Check.INDEX, () -> x.often(8, 0, -1, 0, 0));
    Check.refuses("often: set, most", x, Check.INDEX, () -> x.often(8, 0, 0, 7, 0));
    Check.refuses("often: set, price", x, Check.INDEX, () -> x.often(-1, 0, 0, 0, 10));
    Check.refuses("often: set, 12 rules", x, Check.INDEX, () -> x.often(0, 0, 0, 0, 0));
    Check.refuses("often: value, 12 rules", x, Check.ARGUMENT, () -> x.often(1, 6, 0, 0, 0));
    Check.refuses("often: least, 12 rules", x, Check.ARGUMENT, () -> x.often(1, 0, 7, 7, 0));
    Check.refuses("often: most, 12 rules", x, Check.ARGUMENT, () -> x.often(1, 0, 1, 0, 0));
    Check.refuses("often: price, 12 rules", x, Check.ARGUMENT, () -> x.often(1, 0, 0, 0, 10));
    Check.refuses("ring: set, price", x, Check.INDEX, () -> x.ring(4, false, 10));
    Check.refuses("ring: set, 12 rules", x, Check.INDEX, () -> x.ring(9, true, 0));
    Check.refuses("ring: price, 12 rules", x, Check.ARGUMENT, () -> x.ring(3, true, 10));
    Check.refuses("slope: set, price", x, Check.INDEX, () -> x.slope(2, 10));
    Check.refuses("slope: set, 12 rules", x, Check.INDEX, () -> x.slope(2, 0));
    Check.refuses("slope: price, 12 rules", x, Check.ARGUMENT, () -> x.slope(3, 10));
    for (int i = 1; i <= 12; i++) x.row(0, 0, 0);
    Check.refuses("row: a number, 12 rows", x, Check.ARGUMENT, () -> x.row(0, 0, 6));
    for (int i = 1; i <= 6; i++) x.suppose();
    Check.refuses("drop: rule, level", x, Check.INDEX, () -> x.drop(12));
    Check.refuses("choose: variable, value", x, Check.INDEX, () -> x.choose(3, 6));
    Check.refuses("choose: variable, level", x, Check.INDEX, () -> x.choose(3, 0));
    Check.refuses("choose: value, level", x, Check.ARGUMENT, () -> x.choose(0, 3));
    Check.refuses("ofRule: rule, what", x, Check.INDEX, () -> x.ofRule(12, 7));
    Check.refuses("alike: mirrors, nth", x, Check.ARGUMENT, () -> x.alike(27, 4));
  }

  private static Wishsolver level1() {
    Wishsolver x = Check.with(3);
    x.suppose();
    return x;
  }

  // ---- section 1

  private static void variables() {
    Edges.in("1");
    Edges.edge("VARIABLES, at most 6, are numbered from 0", () -> {
      Wishsolver x = new Wishsolver();
      for (int i = 0; i < 6; i++) Check.same("number", x.variable(1), i);
      Check.refuses("a seventh", x, Check.STATE, () -> x.variable(1));
      Check.refuses("the first one is 0", x, Check.INDEX, () -> x.range(-1, true));
      Check.same("the last one is 5", x.range(5, true), 1);
      Check.refuses("6 is none", x, Check.INDEX, () -> x.range(6, true));
    });
    Edges.edge("their VALUES are 0 to 5", () -> {
      Wishsolver x = Check.with(63);
      Check.same("all", Check.solutions(x), "0, 1, 2, 3, 4, 5");
      Check.refuses("no 6", x, Check.ARGUMENT, () -> x.take(0, 6));
      Check.refuses("no -1", x, Check.ARGUMENT, () -> x.choose(0, -1));
    });
    Edges.edge("a RANGE (a set, all of which is TOLD)", () -> {
      Wishsolver x = Check.with(15, 15);
      x.order(0, 2, 1, 0);
      x.settle();
      x.take(0, 0);
      Check.same("taken from both", Check.ranges(x, 0), "14/2");
      x.take(0, 3);
      Check.same("not in the range", Check.ranges(x, 0), "6/2");
      x.choose(1, 3);
      Check.same("chosen", Check.ranges(x, 1), "8/8");
    });
    Edges.edge("The product of how many VALUES all TOLD sets have is at most 7776", () -> {
      Check.same("7776 of five", Check.with(63, 63, 63, 63, 63).solutions(), 7776);
      Check.same("7776 of six", Check.with(63, 63, 63, 63, 7, 3).solutions(), 7776);
      Check.same("7500", Check.with(31, 31, 31, 31, 15, 7).solutions(), 7500);
      Wishsolver x = Check.with(31, 31, 31, 15, 15);
      Check.refuses("8000", x, Check.STATE, () -> x.variable(15));
      Check.same("6000", x.variable(7) + " " + x.solutions(), "5 6000");
    });
    Edges.edge("RULES, at most 12, are numbered from 0", () -> {
      Wishsolver x = Check.with(3, 3);
      for (int i = 0; i < 12; i++) Check.same("number", x.unlike(3, i % 2), i);
      Check.refuses("a 13th", x, Check.STATE, () -> x.unlike(3, 0));
      Check.refuses("the first one is 0", x, Check.INDEX, () -> x.ofRule(-1, 0));
      Check.same("the last one is 11", x.ofRule(11, 2), 1);
      Check.refuses("12 is none", x, Check.INDEX, () -> x.ofRule(12, 0));
    });
    Edges.edge("if one goes, those behind it move up", () -> {
      Wishsolver x = Check.with(3, 3, 3);
      for (int i = 0; i < 12; i++) x.often(1 + i % 7, 0, 0, 6, i % 10);
      x.drop(11);
      Check.same("the last one", prices(x), "0 1 2 3 4 5 6 7 8 9 0");
      x.drop(0);
      Check.same("the first one", prices(x), "1 2 3 4 5 6 7 8 9 0");
      x.drop(5);
      Check.same("one between", prices(x), "1 2 3 4 5 7 8 9 0");
      Check.same("a new one comes behind", x.slope(3, 6) + " " + prices(x), "9 1 2 3 4 5 7 8 9 0 6");
    });
  }

  private static String prices(Wishsolver x) {
    StringBuilder all = new StringBuilder();
    for (int i = 0; i < x.house(1); i++) all.append(i == 0 ? "" : " ").append(x.ofRule(i, 2));
    return all.toString();
  }

  private static void numbers() {
    Edges.edge("Each has a KIND, its VARIABLES", () -> {
      Wishsolver x = Check.with(1, 1, 1, 1, 1, 1);
      x.term(5, 0);
      x.sum(0, 0, 0);
      x.product(5, 3, 1, 0);
      x.distance(0, 2, 4, 0);
      x.row(0, 0, 0);
      x.element(5, 2, 0);
      x.row(0, 0, 0);
      x.table(4, 1, 5, 0);
      x.order(3, 0, 1, 0);
      x.unlike(33, 0);
      x.often(16, 0, 0, 0, 0);
      x.ring(48, false, 0);
      x.ring(63, true, 0);
      x.slope(40, 0);
      StringBuilder all = new StringBuilder();
      for (int i = 0; i < 11; i++) all.append(x.ofRule(i, 0)).append(':').append(x.ofRule(i, 1)).append(' ');
      Check.same("kinds 0 to 10", all.toString(), "0:32 1:42 2:21 3:36 4:50 5:10 6:33 7:16 8:48 9:63 10:40 ");
    });
    Edges.edge("a PRICE (0 to 9)", () -> {
      Wishsolver x = Check.with(1, 1);
      for (int price = 0; price <= 9; price++) Check.same("price", x.ofRule(x.unlike(3, price), 2), price);
      x.drop(0);
      Check.same("all of them", x.cost(0), 45);
      Check.refuses("10", x, Check.ARGUMENT, () -> x.unlike(3, 10));
      Check.refuses("-1", x, Check.ARGUMENT, () -> x.unlike(3, -1));
    });
    Edges.edge("a LEVEL at which it came", () -> {
      Wishsolver x = Check.with(1, 1);
      for (int level = 0; level <= 6; level++) {
        Check.same("level", x.ofRule(x.slope(3, 1), 3), level);
        if (level < 6) x.suppose();
      }
      for (int level = 5; level >= 0; level--) {
        x.back();
        Check.same("those of lower ones", x.house(1) + " " + x.ofRule(level, 3), level + 1 + " " + level);
      }
    });
    Edges.edge("With the PRICE 0 it is HARD, otherwise SOFT", () -> {
      for (int price = 0; price <= 9; price++) {
        Wishsolver x = Check.with(3, 3);
        x.order(0, 1, 1, price);
        Check.same("what it takes at " + price, x.look() + " " + x.solutions() + " " + x.cost(0), price == 0 ? "2 1 0" : "0 4 " + price);
      }
    });
  }

  private static String sums(int relation, int bound) {
    Wishsolver x = Check.with(7, 7);
    Check.terms(x, 1, 1);
    x.sum(relation, bound, 0);
    return Check.solutions(x);
  }

  private static void kinds() {
    Edges.edge("is at most (relation 0), at least (1), or just (2) its BOUND", () -> {
      Check.same("at most 0", sums(0, 0), "0 0");
      Check.same("at most -1", sums(0, -1), "");
      Check.same("at most 1", sums(0, 1), "0 0, 0 1, 1 0");
      Check.same("at least 4", sums(1, 4), "2 2");
      Check.same("at least 5", sums(1, 5), "");
      Check.same("at least 3", sums(1, 3), "1 2, 2 1, 2 2");
      Check.same("just 0", sums(2, 0), "0 0");
      Check.same("just 1", sums(2, 1), "0 1, 1 0");
      Check.same("just 4", sums(2, 4), "2 2");
      Check.same("just 5", sums(2, 5), "");
      Check.same("just -1", sums(2, -1), "");
    });
    Edges.edge("the sum of WEIGHT times VALUE", () -> {
      Wishsolver x = Check.with(32, 32, 32, 32, 32, 32);
      Check.terms(x, -4, -4, -4, -4, -4, -4);
      x.sum(0, -100, 0);
      Check.same("-120 is at most -100", x.solutions(), 1);
      Check.terms(x, -4, -4, -4, -4, -4, 4);
      x.sum(2, -80, 0);
      Check.terms(x, 4, 4, 4, 4, 4);
      x.sum(2, 100, 0);
      Check.same("just 100, just -80", x.solutions(), 1);
      Check.terms(x, 4, 4, 4, 4, 4);
      x.sum(1, 100, 1);
      Check.terms(x, 4, 4, 4, 4, 4);
      x.sum(0, 99, 2);
      Check.same("at least 100, not at most 99", x.cost(0), 2);
    });
    Edges.edge("x * y is z", () -> {
      Wishsolver x = Check.with(63, 63, 63);
      x.product(0, 1, 2, 0);
      Check.same("nothing above 5", Check.solutions(x), "0 0 0, 0 1 0, 0 2 0, 0 3 0, 0 4 0, 0 5 0, 1 0 0, 1 1 1, 1 2 2, 1 3 3, 1 4 4,"
          + " 1 5 5, 2 0 0, 2 1 2, 2 2 4, 3 0 0, 3 1 3, 4 0 0, 4 1 4, 5 0 0, 5 1 5");
    });
    Edges.edge("x less y, without its sign, is z", () -> {
      Wishsolver x = Check.with(33, 33, 63);
      x.distance(0, 1, 2, 0);
      Check.same("0 to 5", Check.solutions(x), "0 0 0, 0 5 5, 5 0 5, 5 5 0");
    });
    Edges.edge("(from 0) of its ROWS is y (there is such one)", () -> {
      Wishsolver x = Check.with(63, 63);
      x.row(5, 1, 2);
      x.element(0, 1, 0);
      Check.same("one row", Check.solutions(x), "0 5");
      x.drop(0);
      for (int i = 0; i < 5; i++) x.row(5 - i, 0, 0);
      x.element(0, 1, 0);
      Check.same("five rows, none for 5", Check.solutions(x), "0 5, 1 4, 2 3, 3 2, 4 1");
      x.drop(0);
      for (int i = 0; i < 12; i++) x.row(i % 6, 5 - i % 6, 0);
      x.element(0, 1, 0);
      Check.same("more rows than values", Check.solutions(x), "0 0, 1 1, 2 2, 3 3, 4 4, 5 5");
    });
    Edges.edge("x, y and z are the three numbers of one of its ROWS", () -> {
      Wishsolver x = Check.with(63, 63, 63);
      for (int i = 0; i < 12; i++) x.row(i % 6, 5 - i % 6, i / 11 * 5);
      x.table(0, 1, 2, 0);
      Check.same("the first and the last of 12, twice is once", Check.solutions(x), "0 5 0, 1 4 0, 2 3 0, 3 2 0, 4 1 0, 5 0 0, 5 0 5");
      Check.same("rows", x.ofRule(0, 5), 7);
    });
    Edges.edge("x and c together are y or less", () -> {
      Wishsolver x = Check.with(63, 63);
      x.order(0, 5, 1, 0);
      Check.same("5", Check.solutions(x), "0 5");
      x.drop(0);
      x.order(0, 4, 1, 0);
      Check.same("4", Check.solutions(x), "0 4, 0 5, 1 5");
      x.drop(0);
      x.order(0, -5, 1, 0);
      Check.same("-5", x.solutions(), 36);
      x.drop(0);
      x.order(0, -4, 1, 0);
      Check.same("-4", x.solutions() + " " + x.solution(30) + " " + x.solution(34), "35 5 1 5 5");
      x.drop(0);
      x.order(0, 0, 1, 0);
      Check.same("0", x.solutions() + " " + x.solution(0), "21 0 0");
    });
    Edges.edge("no two of its VARIABLES have the same VALUE", () -> {
      Wishsolver x = Check.with(3, 3, 7);
      x.unlike(5, 0);
      Check.same("two; the third is free", Check.solutions(x), "0 0 1, 0 0 2, 0 1 1, 0 1 2, 1 0 0, 1 0 2, 1 1 0, 1 1 2");
      Wishsolver y = Check.with(1, 2, 4, 8, 16, 33);
      y.unlike(63, 0);
      Check.same("six", Check.solutions(y), "0 1 2 3 4 5");
    });
    Edges.edge("at least so many, and at most so many of them have a VALUE", () -> {
      Check.same("none", oftens(0, 0), 1);
      Check.same("one", oftens(1, 1), 3);
      Check.same("one or two", oftens(1, 2), 6);
      Check.same("all", oftens(3, 3), 1);
      Check.same("all, and more", oftens(3, 6), 1);
      Check.same("more than there are", oftens(4, 6), 0);
      Check.same("anything", oftens(0, 6), 8);
    });
    Edges.edge("the VALUES do not differ by just j - i, upwards or downwards", () -> {
      Wishsolver x = Check.with(63, 1, 1, 1, 1, 63);
      x.slope(33, 0);
      Check.same("5 apart", x.solutions() + " " + x.cost(0), "34 0");
      x.choose(0, 0);
      Check.same("not upwards", Check.solutions(x), "0 0 0 0 0 0, 0 0 0 0 0 1, 0 0 0 0 0 2, 0 0 0 0 0 3, 0 0 0 0 0 4");
      x.back();
      x.choose(0, 5);
      Check.same("not downwards", Check.solutions(x), "5 0 0 0 0 1, 5 0 0 0 0 2, 5 0 0 0 0 3, 5 0 0 0 0 4, 5 0 0 0 0 5");
      Wishsolver y = Check.with(7, 1, 7);
      y.slope(5, 0);
      Check.same("by numbers, not by places: 1 is fine, 2 is not", Check.solutions(y), "0 0 0, 0 0 1, 1 0 0, 1 0 1, 1 0 2, 2 0 1, 2 0 2");
    });
  }

  private static int oftens(int least, int most) {
    Wishsolver x = Check.with(3, 3, 3);
    x.often(7, 1, least, most, 0);
    return x.solutions();
  }

  private static String around(boolean isPath, int set, int... told) {
    Wishsolver x = Check.with(told);
    x.ring(set, isPath, 0);
    return Check.solutions(x);
  }

  private static void rounds() {
    Edges.edge("its n VARIABLES, by rising numbers, are the places 0 to n - 1", () -> {
      Check.same("the numbers have gaps", around(false, 42, 1, 63, 1, 63, 1, 63), "0 1 0 2 0 0, 0 2 0 0 0 1");
      Check.same("no place 2 of two", around(false, 3, 62, 62), "");
      Check.same("six", around(false, 63, 2, 4, 8, 16, 32, 1), "1 2 3 4 5 0");
    });
    Edges.edge("the VALUE of each is the next place", () -> {
      Check.same("2, then 1, then 0", around(false, 7, 4, 1, 2), "2 0 1");
      Check.same("the place of each, not its number", around(false, 37, 4, 1, 1, 1, 1, 2), "2 0 0 0 0 1");
    });
    Edges.edge("one comes through all places, each once, and back to 0", () -> {
      Check.same("two", around(false, 3, 63, 63), "1 0");
      Check.same("three", around(false, 7, 63, 63, 63), "1 2 0, 2 0 1");
      Check.same("not two by two", around(false, 15, 2, 1, 8, 4), "");
      Check.same("not one alone", around(false, 7, 2, 1, 4), "");
      Check.same("not back to another place", around(false, 7, 2, 4, 2), "");
      Check.same("it does not end", around(false, 7, 2, 4, 4), "");
    });
    Edges.edge("likewise, but one ends somewhere", () -> {
      Check.same("two", around(true, 3, 63, 63), "1 1");
      Check.same("not back to 0", around(true, 7, 2, 4, 1), "");
      Check.same("not at once", around(true, 3, 1, 2), "");
      Check.same("not all places", around(true, 7, 2, 2, 7), "");
      Check.same("not outside", around(true, 3, 2, 4), "");
    });
    Edges.edge("the VALUE of that one is its own place", () -> {
      Check.same("three", around(true, 7, 63, 63, 63), "1 2 2, 2 1 1");
      Check.same("six", around(true, 63, 32, 2, 2, 4, 8, 16), "5 1 1 2 3 4");
    });
    Edges.edge("each of its RANGE, by which it HOLDS, are a ROW", () -> {
      Wishsolver x = Check.with(7, 7, 7);
      x.unlike(3, 0);
      Check.same("all", x.ofRule(0, 5), 6);
      x.order(2, 2, 0, 0);
      x.settle();
      Check.same("by ranges, not by what is told", Check.ranges(x, 0) + " " + x.ofRule(0, 5), "7/4 2");
      x.choose(1, 0);
      Check.same("one", x.ofRule(0, 5), 1);
      x.often(2, 1, 1, 6, 0);
      x.settle();
      Check.same("none", x.ofRule(0, 5), 0);
    });
  }

  private static void slip() {
    Edges.edge("up to 6 TERMS", () -> {
      Wishsolver x = Check.with(1, 1, 1, 1, 1, 32);
      for (int i = 0; i < 6; i++) Check.same("term", x.term(i, 1), i + 1);
      Check.refuses("no other variable", x, Check.INDEX, () -> x.term(6, 1));
      x.sum(2, 5, 0);
      Check.same("all six count", x.solutions() + " " + x.ofRule(0, 1), "1 63");
    });
    Edges.edge("none twice", () -> {
      Wishsolver x = Check.with(3, 3);
      x.term(0, 0);
      Check.refuses("also with 0", x, Check.STATE, () -> x.term(0, 0));
      x.term(1, 2);
      Check.refuses("the other one", x, Check.STATE, () -> x.term(1, -2));
      x.goal();
      Check.same("again on an empty slip", x.term(0, 1), 1);
    });
    Edges.edge("with a WEIGHT of -4 to 4", () -> {
      for (int weight = -4; weight <= 4; weight++) {
        Wishsolver x = Check.with(32);
        x.term(0, weight);
        x.goal();
        Check.same("weight " + weight, x.cost(0), 5 * weight);
      }
      Wishsolver x = Check.with(32);
      Check.refuses("5", x, Check.ARGUMENT, () -> x.term(0, 5));
      Check.refuses("-5", x, Check.ARGUMENT, () -> x.term(0, -5));
    });
    Edges.edge("up to 12 ROWS of three numbers (0 to 5 each)", () -> {
      Wishsolver x = Check.with(63, 63, 63);
      for (int i = 1; i <= 12; i++) Check.same("row", x.row(i == 12 ? 5 : 0, i == 12 ? 5 : 0, i == 12 ? 5 : 0), i);
      Check.refuses("a 13th", x, Check.STATE, () -> x.row(0, 0, 0));
      x.table(2, 1, 0, 0);
      Check.same("the smallest and the greatest", Check.solutions(x), "0 0 0, 5 5 5");
      Check.same("room again", x.row(0, 0, 0), 1);
    });
    Edges.edge("none at first", () -> {
      Wishsolver x = Check.with(3);
      Check.same("the slip", x.house(6) + " " + x.house(7) + " " + x.wipe(), "0 0 0");
    });
    Edges.edge("TERMS or ROWS are gone then", () -> {
      Wishsolver x = Check.with(3, 3, 3);
      x.term(0, 1);
      x.row(1, 1, 1);
      x.element(0, 1, 0);
      Check.same("an element takes rows", x.house(6) + " " + x.house(7), "1 0");
      x.row(1, 1, 1);
      x.table(0, 1, 2, 0);
      Check.same("a table takes rows", x.house(6) + " " + x.house(7), "1 0");
      x.row(1, 1, 1);
      x.sum(0, 1, 0);
      Check.same("a sum takes terms", x.house(6) + " " + x.house(7), "0 1");
      x.term(0, 1);
      x.goal();
      Check.same("the goal takes terms", x.house(6) + " " + x.house(7), "0 1");
      x.term(1, 1);
      x.unlike(3, 0);
      x.order(0, 0, 1, 0);
      x.product(0, 1, 2, 1);
      Check.same("others take nothing", x.house(6) + " " + x.house(7), "1 1");
    });
  }

  private static void solutions() {
    Edges.edge("GOAL: TERMS (none at first)", () -> {
      Wishsolver x = Check.with(32);
      Check.same("none", x.house(8) + " " + x.cost(0), "0 0");
    });
    Edges.edge("a VALUE of its TOLD set for each VARIABLE, by which all HARD RULES HOLD", () -> {
      Wishsolver x = Check.with(3, 12);
      Check.same("no rule", Check.solutions(x), "0 2, 0 3, 1 2, 1 3");
      x.often(3, 0, 1, 1, 9);
      x.order(1, 1, 0, 9);
      Check.same("soft rules", x.solutions(), 4);
      x.often(3, 0, 1, 1, 0);
      Check.same("a hard one", Check.solutions(x), "0 2, 0 3");
      x.often(3, 3, 1, 1, 0);
      Check.same("another one", Check.solutions(x), "0 3");
      x.order(1, 0, 0, 0);
      Check.same("none is left", x.solutions(), 0);
    });
    Edges.edge("and the PRICES of all SOFT RULES that do not HOLD", () -> {
      Wishsolver x = Check.with(33);
      x.term(0, -4);
      x.goal();
      for (int i = 0; i < 12; i++) x.often(1, 5, 0, 0, 9);
      Check.same("none, all", x.cost(0) + " " + x.cost(1), "0 88");
      Wishsolver y = Check.with(63, 63, 63, 63, 63, 1);
      y.often(1, 5, 0, 0, 1);
      y.often(2, 5, 0, 0, 2);
      y.often(16, 5, 0, 0, 4);
      Check.same("the first and the last of all", y.cost(0) + " " + y.cost(7775), "0 7");
      Check.same("far behind", y.cost(6479) + " " + y.cost(6480) + " " + y.cost(7559) + " " + y.cost(7560) + " " + y.cost(5), "6 1 5 3 4");
    });
    Edges.edge("by the VALUE of VARIABLE 0, then of 1, and so on", () -> {
      Wishsolver x = Check.with(3, 1, 3, 1, 1, 36);
      Check.same("the last one first", Check.solutions(x), "0 0 0 0 0 2, 0 0 0 0 0 5, 0 0 1 0 0 2, 0 0 1 0 0 5, 1 0 0 0 0 2, 1 0 0 0 0 5,"
          + " 1 0 1 0 0 2, 1 0 1 0 0 5");
    });
    Edges.edge("(Without VARIABLES there is one, with nothing in it, if all HARD RULES HOLD.)", () -> {
      Wishsolver x = new Wishsolver();
      Check.same("one", x.solutions() + " '" + x.solution(0) + "' " + x.cost(0), "1 '' 0");
      Check.same("the best", x.best(false) + " " + x.best(true), "0 0");
      Check.same("alike", x.unlikes(0) + " " + x.unlikes(3) + " " + x.alike(0, 0) + " " + x.alike(0, 3), "1 1 1 1");
      Check.refuses("no second one", x, Check.NO_ELEMENT, () -> x.solution(1));
      Check.refuses("no core", x, Check.STATE, () -> x.core());
    });
  }
}
