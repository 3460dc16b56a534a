/** The boundaries that promises 1 to 19 name: what is told. */
final class TellingEdges {
  private static final int[] NOT_A_VALUE = {-1, 6, 7, 31, 32, 33, 37, 38};

  private TellingEdges() {}

  static void all() {
    newObject();
    variable();
    take();
    term();
    rows();
    sum();
    product();
    distance();
    element();
    table();
    order();
    unlike();
    often();
    ring();
    slope();
    drop();
    goal();
    puzzle();
  }

  // ---- what several promises share

  /** What tells a rule, with a number that the test varies. */
  private interface Teller {
    int tell(Wishsolver x, int number);
  }

  /** With three variables: 0 to 2 are taken, no other one is. */
  private static void variableEdge(String which, Teller teller, int... free) {
    for (int number : free) Check.same(which + " " + number, teller.tell(three(), number), 0);
    Wishsolver x = three();
    Check.refusesEach(which, x, Check.INDEX, n -> teller.tell(x, n), -1, -2, 3, 4, 5, 6, 7, 31, 32, 33, 34, 63, 64, 65);
  }

  private static Wishsolver three() {
    Wishsolver x = Check.with(7, 7, 7);
    x.term(0, 1);
    x.row(1, 1, 1);
    return x;
  }

  private static void priceEdge(Teller teller) {
    for (int price = 0; price <= 9; price++) {
      Wishsolver x = three();
      Check.same("price " + price, teller.tell(x, price) + " " + x.ofRule(0, 2), "0 " + price);
    }
    Wishsolver x = three();
    Check.refusesEach("price", x, Check.ARGUMENT, n -> teller.tell(x, n), -1, -9, 10, 11, 32, 100);
  }

  /** The twelfth rule is taken, a 13th is not; if one is dropped, there is room again. */
  private static void roomEdge(Teller teller) {
    Wishsolver x = three();
    for (int i = 0; i < 11; i++) x.often(1, 0, 0, 6, 1);
    Check.same("the 12th", teller.tell(x, 0), 11);
    x.wipe();
    x.term(0, 1);
    x.row(1, 1, 1);
    Check.refuses("a 13th", x, Check.STATE, () -> teller.tell(x, 0));
    Check.same("the slip stays", x.house(6) + " " + x.house(7), "1 1");
    x.drop(0);
    Check.same("room again", teller.tell(x, 0), 11);
    Wishsolver y = three();
    for (int i = 0; i < 12; i++) y.often(1, 0, 0, 6, 1);
    y.suppose();
    Check.refuses("also at a level", y, Check.STATE, () -> teller.tell(y, 0));
  }

  /** Sets of three variables with two or more are taken, others are not. */
  private static void setEdge(Teller teller) {
    for (int set : new int[] {3, 5, 6, 7}) Check.same("set " + set, teller.tell(three(), set), 0);
    Wishsolver x = three();
    Check.refusesEach("set", x, Check.INDEX, n -> teller.tell(x, n), 0, 1, 2, 4, 8, 9, 11, 15, 16, 63, 64, 67, 71, -1, -2, -3, -8);
    Wishsolver y = Check.with(1, 1, 1, 1, 1, 1);
    Check.same("all six", teller.tell(y, 63), 0);
    Check.refusesEach("set of six", y, Check.INDEX, n -> teller.tell(y, n), 0, 32, 64, 65, 96, 127, 128);
    Wishsolver z = new Wishsolver();
    Check.refusesEach("set of none", z, Check.INDEX, n -> teller.tell(z, n), 0, 1, 3);
  }

  // ---- promise by promise

  private static void newObject() {
    Edges.promise(1);
    Edges.edge("Creates a house without wishes", () -> {
      Wishsolver x = new Wishsolver();
      for (int i = 0; i <= 11; i++) Check.same("house " + i, x.house(i), 0);
      Check.same("digest", x.digest(), Check.checksum(x));
      Check.same("texts", x.waiting() + x.chosen() + x.solution(0), "--");
      Check.same("settle, step, run, right", x.settle() + x.step() + x.run(12) + x.right(), 0);
      Check.refuses("no rule", x, Check.INDEX, () -> x.ofRule(0, 0));
      Check.refuses("no variable", x, Check.INDEX, () -> x.range(0, true));
      Check.refuses("none waits", x, Check.NO_ELEMENT, () -> x.look());
      Check.refuses("level 0", x, Check.STATE, () -> x.back());
    });
  }

  private static void variable() {
    Edges.promise(2);
    Edges.edge("its RANGE is its TOLD set", () -> {
      for (int set = 1; set <= 63; set++) Check.same("set", Check.ranges(Check.with(set), 0), set + "/" + set);
      Wishsolver x = Check.with(7, 7);
      x.order(0, 1, 1, 0);
      x.unlike(3, 4);
      x.settle();
      x.take(0, 2);
      x.variable(48);
      Check.same("those that were there stay as they are", Check.ranges(x, 0) + " " + Check.ranges(x, 1) + " " + Check.ranges(x, 2) + " " + x.waiting(), "3/3 7/6 48/48 -");
      Check.same("so do rules", Check.solutions(x) + "; " + x.ofRule(0, 5) + " " + x.ofRule(1, 5), "0 1 4, 0 1 5, 0 2 4, 0 2 5, 1 2 4, 1 2 5; 3 3");
    });
    Edges.edge("set is not 1 to 63", () -> {
      Wishsolver x = Check.with(7);
      Check.refusesEach("set", x, Check.ARGUMENT, n -> x.variable(n), 0, 64, 65, 127, 128, -1, -63, -64);
      Check.same("1 and 63", x.variable(1) + " " + x.variable(63), "1 2");
    });
    Edges.edge("there are 6", () -> {
      Wishsolver x = Check.with(1, 1, 1, 1, 1);
      Check.same("the sixth", x.variable(3), 5);
      Check.refuses("a seventh", x, Check.STATE, () -> x.variable(1));
      x.puzzle(0, 5);
      Check.same("the sixth behind a puzzle", x.variable(1), 5);
    });
    Edges.edge("the LEVEL is above 0", () -> {
      Wishsolver x = Check.with(3);
      x.suppose();
      Check.refuses("1", x, Check.STATE, () -> x.variable(1));
      for (int i = 2; i <= 6; i++) x.suppose();
      Check.refuses("6", x, Check.STATE, () -> x.variable(1));
      for (int i = 1; i <= 6; i++) x.back();
      Check.same("0", x.variable(1), 1);
      x.choose(0, 1);
      Check.refuses("1 by choose()", x, Check.STATE, () -> x.variable(1));
      Wishsolver y = new Wishsolver();
      y.suppose();
      Check.refuses("also the first one", y, Check.STATE, () -> y.variable(1));
    });
    Edges.edge("it has FAILED", () -> {
      Wishsolver x = Check.with(3);
      x.often(1, 5, 1, 1, 0);
      Check.same("not yet", x.variable(1), 1);
      x.look();
      Check.refuses("by look()", x, Check.STATE, () -> x.variable(1));
      x.drop(0);
      Check.same("no more", x.variable(3), 2);
      x.order(0, 0, 1, 0);
      x.settle();
      x.take(0, 0);
      Check.refuses("by take()", x, Check.STATE, () -> x.variable(1));
    });
    Edges.edge("the product would be above 7776", () -> {
      Wishsolver x = Check.with(63, 63, 63, 63, 7);
      Check.refuses("11664", x, Check.STATE, () -> x.variable(7));
      Check.same("7776", x.variable(3), 5);
      Wishsolver y = Check.with(31, 31, 31, 15, 15);
      Check.refuses("8000", y, Check.STATE, () -> y.variable(15));
      y.order(0, 4, 1, 0);
      y.settle();
      Check.refuses("ranges do not count", y, Check.STATE, () -> y.variable(15));
      y.take(4, 0);
      Check.same("told sets do", y.variable(15), 5);
      Check.same("6000", y.house(0), 6);
    });
  }

  private static void take() {
    Edges.promise(3);
    Edges.edge("and from its RANGE, if it is there", () -> {
      Wishsolver x = Check.with(15, 15);
      x.order(0, 2, 1, 0);
      x.settle();
      Check.same("it is not", x.take(0, 3) + " " + Check.ranges(x, 0) + " " + x.waiting(), "2 7/3 -");
      Check.same("it is", x.take(0, 1) + " " + Check.ranges(x, 0) + " " + x.waiting(), "1 5/1 0");
    });
    Edges.edge("Returns how many VALUES its RANGE has then (0: it has FAILED)", () -> {
      Wishsolver x = Check.with(63, 3);
      for (int i = 0; i < 5; i++) Check.same("left", x.take(0, i), 5 - i);
      x.unlike(3, 0);
      Wishsolver y = Check.with(3, 3);
      y.order(0, 1, 1, 0);
      y.settle();
      Check.same("the last one of the range", y.take(0, 0) + " " + y.house(4) + " " + y.house(5) + " " + y.range(0, true), "0 1 0 2");
      Check.same("failed, from what is told", y.take(1, 0) + " " + y.range(1, true), "0 2");
      Check.refuses("failed, the last one told", y, Check.ARGUMENT, () -> y.take(1, 1));
    });
    Edges.edge("there is no such VARIABLE", () -> {
      Wishsolver x = Check.with(7, 7);
      Check.refusesEach("variable", x, Check.INDEX, n -> x.take(n, 0), -1, 2, 3, 5, 6, 7, 32, 33);
      Wishsolver y = new Wishsolver();
      Check.refuses("none at all", y, Check.INDEX, () -> y.take(0, 0));
    });
    Edges.edge("value is not in its TOLD set", () -> {
      Wishsolver x = Check.with(45);
      Check.refusesEach("value", x, Check.ARGUMENT, n -> x.take(0, n), NOT_A_VALUE);
      Check.refusesEach("not told", x, Check.ARGUMENT, n -> x.take(0, n), 1, 4, 34, 35);
      Check.same("told", x.take(0, 5) + " " + x.take(0, 0), "3 2");
      Check.refuses("no more", x, Check.ARGUMENT, () -> x.take(0, 5));
    });
    Edges.edge("is all of it", () -> {
      Wishsolver x = Check.with(48, 1);
      Check.refuses("told as one", x, Check.ARGUMENT, () -> x.take(1, 0));
      x.take(0, 4);
      Check.refuses("left as one", x, Check.ARGUMENT, () -> x.take(0, 5));
      x.puzzle(0, 3);
      x.choose(0, 2);
      Check.refuses("chosen alone", x, Check.ARGUMENT, () -> x.take(0, 2));
      x.back();
      Check.same("given back", x.take(0, 2), 2);
      Wishsolver y = Check.with(7, 7);
      y.order(0, 2, 1, 0);
      y.settle();
      Check.same("all of the range is not all that is told", y.take(0, 0) + " " + y.house(4), "0 1");
    });
  }

  private static void term() {
    Edges.promise(4);
    Edges.edge("Returns how many TERMS stand there", () -> {
      Wishsolver x = Check.with(1, 1, 1, 1, 1, 1);
      x.row(0, 0, 0);
      for (int i = 5; i >= 0; i--) Check.same("terms", x.term(i, 0), 6 - i);
      x.goal();
      Check.same("again", x.term(3, 4), 1);
    });
    Edges.edge("there is no such VARIABLE", () -> variableEdge("variable", (x, n) -> {
      x.term(n, 1);
      return 0;
    }, 1, 2));
    Edges.edge("weight is not -4 to 4", () -> {
      Wishsolver x = Check.with(3);
      Check.refusesEach("weight", x, Check.ARGUMENT, n -> x.term(0, n), -5, -6, 5, 6, 32, -32);
      for (int weight = -4; weight <= 4; weight++) Check.same("weight " + weight, x.term(0, weight) + x.wipe(), 2);
    });
    Edges.edge("it has that VARIABLE", () -> {
      Wishsolver x = Check.with(3, 3, 3, 3, 3, 3);
      for (int i = 0; i < 6; i++) {
        int variable = i;
        x.term(variable, i - 3);
        Check.refuses("twice", x, Check.STATE, () -> x.term(variable, 1));
      }
      x.wipe();
      Check.same("wiped", x.term(5, 1), 1);
      x.sum(0, 5, 0);
      Check.same("used", x.term(5, 1), 1);
    });
  }

  private static void rows() {
    Edges.promise(5);
    Edges.edge("Returns how many ROWS stand there", () -> {
      Wishsolver x = Check.with(63, 63);
      x.term(0, 1);
      for (int i = 1; i <= 12; i++) Check.same("rows, also the same", x.row(1, 1, 1), i);
      x.element(0, 1, 0);
      Check.same("again", x.row(1, 1, 1), 1);
    });
    Edges.edge("one is not 0 to 5", () -> {
      Wishsolver x = new Wishsolver();
      Check.refusesEach("a", x, Check.ARGUMENT, n -> x.row(n, 0, 0), NOT_A_VALUE);
      Check.refusesEach("b", x, Check.ARGUMENT, n -> x.row(5, n, 5), NOT_A_VALUE);
      Check.refusesEach("c", x, Check.ARGUMENT, n -> x.row(0, 5, n), NOT_A_VALUE);
      Check.same("edges", x.row(0, 5, 0) + " " + x.row(5, 0, 5), "1 2");
    });
    Edges.edge("there are 12", () -> {
      Wishsolver x = Check.with(63, 63);
      for (int i = 1; i <= 11; i++) x.row(i % 6, 0, 0);
      Check.same("the 12th", x.row(5, 5, 5), 12);
      Check.refuses("a 13th", x, Check.STATE, () -> x.row(0, 0, 0));
      Check.same("all wiped", x.wipe() + " " + x.row(0, 0, 0), "12 1");
    });
    Edges.promise(6);
    Edges.edge("The SLIP is empty then", () -> {
      Wishsolver x = three();
      x.wipe();
      Check.same("both", x.house(6) + " " + x.house(7) + " " + x.wipe(), "0 0 0");
      Check.refuses("no term", x, Check.STATE, () -> x.sum(0, 0, 0));
      Check.refuses("no row", x, Check.STATE, () -> x.element(0, 1, 0));
    });
    Edges.edge("how many TERMS and ROWS stood there together", () -> {
      Wishsolver x = Check.with(1, 1, 1, 1, 1, 1);
      Check.same("none", x.wipe(), 0);
      x.row(0, 0, 0);
      Check.same("a row", x.wipe(), 1);
      x.term(0, 0);
      Check.same("a term", x.wipe(), 1);
      for (int i = 0; i < 6; i++) x.term(i, 1);
      for (int i = 0; i < 12; i++) x.row(0, 0, 0);
      Check.same("all that can stand there", x.wipe(), 18);
    });
  }

  private static void sum() {
    Edges.promise(7);
    Edges.edge("0 at most, 1 at least, 2 just", () -> {
      String all = "";
      for (int relation = 0; relation <= 2; relation++) {
        Wishsolver x = Check.with(7);
        x.term(0, 1);
        x.sum(relation, 1, 0);
        all += Check.solutions(x) + "; ";
      }
      Check.same("of 0 to 2 by the bound 1", all, "0, 1; 1, 2; 1; ");
    });
    Edges.edge("relation is not 0 to 2", () -> {
      Wishsolver x = three();
      Check.refusesEach("relation", x, Check.ARGUMENT, n -> x.sum(n, 0, 0), -1, 3, 4, 32);
    });
    Edges.edge("bound not -100 to 100", () -> {
      Wishsolver x = three();
      Check.refusesThese("bound", x, Check.ARGUMENT, n -> x.sum(0, n, 0), -101, -102, 101, 102, 1 << 20, Integer.MIN_VALUE, Integer.MAX_VALUE);
      Check.same("-100", x.sum(1, -100, 0) + " " + x.solutions(), "0 27");
      x.term(0, 1);
      Check.same("100", x.sum(0, 100, 0) + " " + x.solutions(), "1 27");
      x.term(0, 1);
      Check.same("just 100", x.sum(2, 100, 0) + " " + x.solutions(), "2 0");
    });
    Edges.edge("price not 0 to 9", () -> priceEdge((x, n) -> x.sum(0, 0, n)));
    Edges.edge("there is no TERM", () -> {
      Wishsolver x = Check.with(3);
      x.row(0, 0, 0);
      Check.refuses("rows are none", x, Check.STATE, () -> x.sum(0, 0, 0));
      x.term(0, 0);
      Check.same("one of weight 0", x.sum(0, 0, 0) + " " + x.solutions(), "0 2");
      Check.refuses("taken", x, Check.STATE, () -> x.sum(0, 0, 0));
    });
    Edges.edge("there are 12 RULES", () -> roomEdge((x, n) -> x.sum(0, 5, n)));
  }

  private static void product() {
    Edges.promise(8);
    Edges.edge("there is no such VARIABLE as x, y or z", () -> {
      variableEdge("x", (x, n) -> x.product(n, 1, 0, 0), 2);
      variableEdge("y", (x, n) -> x.product(0, n, 2, 0), 1);
      variableEdge("z", (x, n) -> x.product(1, 2, n, 0), 0);
    });
    Edges.edge("two of x, y and z are the same", () -> {
      Wishsolver x = three();
      for (int i = 0; i < 3; i++) {
        int one = i;
        int other = (i + 1) % 3;
        Check.refuses("x and y", x, Check.ARGUMENT, () -> x.product(one, one, other, 0));
        Check.refuses("x and z", x, Check.ARGUMENT, () -> x.product(one, other, one, 0));
        Check.refuses("y and z", x, Check.ARGUMENT, () -> x.product(other, one, one, 0));
        Check.refuses("all", x, Check.ARGUMENT, () -> x.product(one, one, one, 0));
      }
    });
    Edges.edge("price is not 0 to 9", () -> priceEdge((x, n) -> x.product(0, 1, 2, n)));
    Edges.edge("there are 12 RULES", () -> roomEdge((x, n) -> x.product(2, 1, 0, n)));
  }

  private static void distance() {
    Edges.promise(9);
    Edges.edge("there is no such VARIABLE as x, y or z", () -> {
      variableEdge("x", (x, n) -> x.distance(n, 1, 0, 0), 2);
      variableEdge("y", (x, n) -> x.distance(0, n, 2, 0), 1);
      variableEdge("z", (x, n) -> x.distance(1, 2, n, 0), 0);
    });
    Edges.edge("two of x, y and z are the same", () -> {
      Wishsolver x = three();
      for (int i = 0; i < 3; i++) {
        int one = i;
        int other = (i + 1) % 3;
        Check.refuses("x and y", x, Check.ARGUMENT, () -> x.distance(one, one, other, 0));
        Check.refuses("x and z", x, Check.ARGUMENT, () -> x.distance(one, other, one, 0));
        Check.refuses("y and z", x, Check.ARGUMENT, () -> x.distance(other, one, one, 0));
        Check.refuses("all", x, Check.ARGUMENT, () -> x.distance(one, one, one, 0));
      }
    });
    Edges.edge("price is not 0 to 9", () -> priceEdge((x, n) -> x.distance(0, 1, 2, n)));
    Edges.edge("there are 12 RULES", () -> roomEdge((x, n) -> x.distance(2, 1, 0, n)));
  }

  private static void element() {
    Edges.promise(10);
    Edges.edge("there is no such VARIABLE as x or y", () -> {
      variableEdge("x", (x, n) -> x.element(n, 1, 0), 0, 2);
      variableEdge("y", (x, n) -> x.element(0, n, 0), 1, 2);
    });
    Edges.edge("both are the same", () -> {
      Wishsolver x = three();
      for (int i = 0; i < 3; i++) {
        int one = i;
        Check.refuses("both " + i, x, Check.ARGUMENT, () -> x.element(one, one, 0));
      }
    });
    Edges.edge("price is not 0 to 9", () -> priceEdge((x, n) -> x.element(0, 1, n)));
    Edges.edge("there is no ROW", () -> {
      Wishsolver x = Check.with(7, 7);
      x.term(0, 1);
      Check.refuses("terms are none", x, Check.STATE, () -> x.element(0, 1, 0));
      x.row(2, 0, 0);
      Check.same("one", x.element(0, 1, 0) + " " + Check.solutions(x), "0 0 2");
      Check.refuses("taken", x, Check.STATE, () -> x.element(0, 1, 0));
      for (int i = 0; i < 12; i++) x.row(i % 3, 0, 0);
      Check.same("twelve", x.element(1, 0, 0) + " " + Check.solutions(x), "1 ");
    });
    Edges.edge("there are 12 RULES", () -> roomEdge((x, n) -> x.element(2, 1, n)));
  }

  private static void table() {
    Edges.promise(11);
    Edges.edge("there is no such VARIABLE as x, y or z", () -> {
      variableEdge("x", (x, n) -> x.table(n, 1, 0, 0), 2);
      variableEdge("y", (x, n) -> x.table(0, n, 2, 0), 1);
      variableEdge("z", (x, n) -> x.table(1, 2, n, 0), 0);
    });
    Edges.edge("two of x, y and z are the same", () -> {
      Wishsolver x = three();
      for (int i = 0; i < 3; i++) {
        int one = i;
        int other = (i + 1) % 3;
        Check.refuses("x and y", x, Check.ARGUMENT, () -> x.table(one, one, other, 0));
        Check.refuses("x and z", x, Check.ARGUMENT, () -> x.table(one, other, one, 0));
        Check.refuses("y and z", x, Check.ARGUMENT, () -> x.table(other, one, one, 0));
        Check.refuses("all", x, Check.ARGUMENT, () -> x.table(one, one, one, 0));
      }
    });
    Edges.edge("price is not 0 to 9", () -> priceEdge((x, n) -> x.table(0, 1, 2, n)));
    Edges.edge("there is no ROW", () -> {
      Wishsolver x = Check.with(7, 7, 7);
      x.term(0, 1);
      Check.refuses("terms are none", x, Check.STATE, () -> x.table(0, 1, 2, 0));
      x.row(2, 0, 1);
      Check.same("one", x.table(0, 1, 2, 0) + " " + Check.solutions(x), "0 2 0 1");
      Check.refuses("taken", x, Check.STATE, () -> x.table(0, 1, 2, 0));
      x.row(3, 3, 3);
      Check.same("one that cannot be", x.table(0, 1, 2, 0) + " " + x.solutions(), "1 0");
    });
    Edges.edge("there are 12 RULES", () -> roomEdge((x, n) -> x.table(2, 1, 0, n)));
  }

  private static void order() {
    Edges.promise(12);
    Edges.edge("there is no such VARIABLE as x or y", () -> {
      variableEdge("x", (x, n) -> x.order(n, 0, 1, 0), 0, 2);
      variableEdge("y", (x, n) -> x.order(0, 0, n, 0), 1, 2);
    });
    Edges.edge("both are the same", () -> {
      Wishsolver x = three();
      for (int i = 0; i < 3; i++) {
        int one = i;
        Check.refuses("both " + i, x, Check.ARGUMENT, () -> x.order(one, -1, one, 0));
      }
    });
    Edges.edge("c is not -5 to 5", () -> {
      Wishsolver x = three();
      Check.refusesEach("c", x, Check.ARGUMENT, n -> x.order(0, n, 1, 0), -6, -7, 6, 7, 32, -32);
      String ways = "";
      for (int c = -5; c <= 5; c++) {
        Wishsolver y = Check.with(63, 63);
        y.order(0, c, 1, 0);
        ways += y.solutions() + " ";
      }
      Check.same("-5 to 5", ways, "36 35 33 30 26 21 15 10 6 3 1 ");
    });
    Edges.edge("price not 0 to 9", () -> priceEdge((x, n) -> x.order(0, 0, 1, n)));
    Edges.edge("there are 12 RULES", () -> roomEdge((x, n) -> x.order(2, 0, 0, n)));
  }

  private static void unlike() {
    Edges.promise(13);
    Edges.edge("set is not a set of VARIABLES, two or more", () -> setEdge((x, n) -> x.unlike(n, 0)));
    Edges.edge("price is not 0 to 9", () -> priceEdge((x, n) -> x.unlike(7, n)));
    Edges.edge("there are 12 RULES", () -> roomEdge((x, n) -> x.unlike(3, n)));
  }

  private static void often() {
    Edges.promise(14);
    Edges.edge("set is not a set of VARIABLES, one or more", () -> {
      for (int set = 1; set <= 7; set++) {
        Wishsolver y = three();
        Check.same("set " + set, y.often(set, 0, 0, 0, 0) + " " + y.ofRule(0, 1), "0 " + set);
      }
      Wishsolver x = three();
      Check.refusesEach("set", x, Check.INDEX, n -> x.often(n, 0, 0, 0, 0), 0, 8, 9, 15, 16, 64, 65, -1, -8);
      Wishsolver z = new Wishsolver();
      Check.refusesEach("set of none", z, Check.INDEX, n -> z.often(n, 0, 0, 0, 0), 0, 1);
    });
    Edges.edge("value is not 0 to 5", () -> {
      Wishsolver x = Check.with(63);
      Check.refusesEach("value", x, Check.ARGUMENT, n -> x.often(1, n, 0, 0, 0), NOT_A_VALUE);
      for (int value = 0; value <= 5; value++) {
        x.suppose();
        x.often(1, value, 1, 1, 0);
        Check.same("value " + value, Check.solutions(x), "" + value);
        x.back();
      }
    });
    Edges.edge("least not 0 to 6", () -> {
      Wishsolver x = Check.with(3);
      Check.refusesEach("least", x, Check.ARGUMENT, n -> x.often(1, 0, n, 6, 0), -1, -2, 7, 8, 32);
      Check.same("0 and 6", x.often(1, 0, 0, 6, 0) + " " + x.solutions() + " " + x.often(1, 0, 6, 6, 0) + " " + x.solutions(), "0 2 1 0");
    });
    Edges.edge("most not least to 6", () -> {
      Wishsolver x = Check.with(3, 3);
      Check.refusesEach("most", x, Check.ARGUMENT, n -> x.often(3, 0, 1, n, 0), -1, 0, 7, 8, 32);
      Check.refusesEach("most by 0", x, Check.ARGUMENT, n -> x.often(3, 0, 0, n, 0), -1, 7);
      Check.refusesEach("most by 6", x, Check.ARGUMENT, n -> x.often(3, 0, 6, n, 0), 5, 7);
      Check.same("as least", x.often(3, 0, 1, 1, 0) + " " + Check.solutions(x), "0 0 1, 1 0");
      Check.same("6", x.often(3, 1, 1, 6, 0) + " " + Check.solutions(x), "1 0 1, 1 0");
    });
    Edges.edge("price not 0 to 9", () -> priceEdge((x, n) -> x.often(1, 0, 0, 6, n)));
    Edges.edge("there are 12 RULES", () -> roomEdge((x, n) -> x.often(7, 0, 0, 6, n)));
  }

  private static void ring() {
    Edges.promise(15);
    Edges.edge("set is not a set of VARIABLES, two or more", () -> {
      setEdge((x, n) -> x.ring(n, false, 0));
      setEdge((x, n) -> x.ring(n, true, 0));
    });
    Edges.edge("price is not 0 to 9", () -> {
      priceEdge((x, n) -> x.ring(7, false, n));
      priceEdge((x, n) -> x.ring(7, true, n));
    });
    Edges.edge("there are 12 RULES", () -> {
      roomEdge((x, n) -> x.ring(7, false, n));
      roomEdge((x, n) -> x.ring(3, true, n));
    });
  }

  private static void slope() {
    Edges.promise(16);
    Edges.edge("set is not a set of VARIABLES, two or more", () -> setEdge((x, n) -> x.slope(n, 0)));
    Edges.edge("price is not 0 to 9", () -> priceEdge((x, n) -> x.slope(7, n)));
    Edges.edge("there are 12 RULES", () -> roomEdge((x, n) -> x.slope(6, n)));
  }

  private static void drop() {
    Edges.promise(17);
    Edges.edge("all RANGES are as TOLD then, and all RULES wait, by rising numbers", () -> {
      Wishsolver x = Check.with(7, 7, 7);
      x.order(1, 2, 2, 0);
      x.order(0, 1, 1, 0);
      x.unlike(7, 3);
      x.settle();
      Check.same("failed", x.house(4) + " " + x.house(5), "1 0");
      x.take(2, 0);
      x.drop(0);
      Check.same("all", Check.ranges(x, 0) + " " + Check.ranges(x, 1) + " " + Check.ranges(x, 2) + " " + x.waiting(), "7/7 7/7 6/6 0 1");
      x.look();
      x.take(2, 1);
      x.choose(0, 1);
      x.slope(3, 0);
      Check.same("it waits with those ahead of it", x.drop(x.slope(6, 0)) + " " + x.waiting() + " " + Check.ranges(x, 0), "3 0 1 2 2/2");
    });
    Edges.edge("Returns how many are left", () -> {
      Wishsolver x = Check.full(3);
      for (int i = 11; i >= 0; i--) Check.same("left", x.drop(i / 2), i);
      Check.refuses("none is left", x, Check.INDEX, () -> x.drop(0));
      Check.same("nothing waits", x.waiting(), "-");
    });
    Edges.edge("there is no such RULE", () -> {
      Wishsolver x = Check.with(3, 3);
      Check.refuses("none at all", x, Check.INDEX, () -> x.drop(0));
      x.unlike(3, 0);
      x.unlike(3, 0);
      Check.refusesEach("rule", x, Check.INDEX, n -> x.drop(n), -1, 2, 3, 11, 12, 32, 33);
      Wishsolver y = Check.full(3);
      Check.refusesEach("rule of twelve", y, Check.INDEX, n -> y.drop(n), -1, 12, 13);
      Check.same("the last one", y.drop(11), 11);
    });
    Edges.edge("it did not come at this LEVEL", () -> {
      Wishsolver x = Check.with(3, 3);
      x.unlike(3, 0);
      x.suppose();
      Check.refuses("at 0", x, Check.STATE, () -> x.drop(0));
      x.unlike(3, 1);
      x.unlike(3, 2);
      x.choose(0, 0);
      Check.refuses("at 1", x, Check.STATE, () -> x.drop(1));
      Check.same("at 2", x.drop(x.unlike(3, 3)), 3);
      x.back();
      Check.same("at 1 again", x.drop(1) + " " + x.ofRule(1, 2), "2 2");
      x.back();
      Check.same("at 0 again", x.drop(0), 0);
    });
  }

  private static void goal() {
    Edges.promise(18);
    Edges.edge("Returns how many it has", () -> {
      Wishsolver x = Check.with(3, 3, 3, 3, 3, 3);
      Check.same("none", x.goal(), 0);
      for (int n = 6; n >= 0; n--) {
        for (int i = 0; i < n; i++) x.term(i, 0);
        Check.same("terms", x.goal() + " " + x.house(8) + " " + x.house(6), n + " " + n + " 0");
      }
      Check.same("in a house without variables", new Wishsolver().goal(), 0);
    });
  }

  private static void puzzle() {
    Edges.promise(19);
    Edges.edge("All VARIABLES, RULES, LEVELS, the SLIP, the GOAL and the SEARCH go", () -> {
      Wishsolver x = Check.with(63, 63, 63, 7, 7, 3);
      for (int i = 0; i < 12; i++) x.often(63, 0, 0, 6, i % 10);
      for (int i = 0; i < 6; i++) x.term(i, 4);
      x.goal();
      for (int i = 0; i < 6; i++) x.term(i, 4);
      for (int i = 0; i < 12; i++) x.row(0, 0, 0);
      x.begin(false, 0);
      x.run(12);
      for (int i = 0; i < 6; i++) x.suppose();
      x.puzzle(1, 2);
      StringBuilder house = new StringBuilder();
      for (int i = 0; i <= 8; i++) house.append(x.house(i)).append(' ');
      Check.same("the house", house.toString(), "2 1 0 1 0 4 0 0 0 ");
      Check.same("the search", GoingEdges.state(x) + x.chosen() + x.weight(1) + x.step() + x.right(), "0 0 0 0 0 0 0-100");
      Check.same("the goal", x.cost(0), 0);
      Check.refuses("no level", x, Check.STATE, () -> x.back());
      Check.same("as a new one", x.digest(), Check.checksum(x));
    });
    Edges.edge("Returns how many RULES there are", () -> {
      Wishsolver x = new Wishsolver();
      String all = "";
      for (int kind = 0; kind < 4; kind++) for (int n = kind == 2 ? 3 : 2; n <= 5; n++) all += x.puzzle(kind, n) + " ";
      Check.same("rules", all, "2 2 2 2 1 1 1 1 3 4 5 2 2 2 2 ");
    });
    Edges.edge("kind is not 0 to 3", () -> {
      Wishsolver x = three();
      Check.refusesEach("kind", x, Check.ARGUMENT, n -> x.puzzle(n, 3), -1, 4, 5, 32);
    });
    Edges.edge("n is not in its bounds", () -> {
      Wishsolver x = three();
      for (int kind = 0; kind < 4; kind++) {
        int one = kind;
        Check.refusesEach("kind " + kind + ", n", x, Check.ARGUMENT, n -> x.puzzle(one, n), -1, 0, 1, 6, 7);
      }
      Check.refuses("colours of 2", x, Check.ARGUMENT, () -> x.puzzle(2, 2));
      Check.same("2 and 5", x.puzzle(0, 2) + " " + x.house(0) + " " + x.puzzle(3, 5) + " " + x.house(0), "2 2 2 5");
    });
  }
}
