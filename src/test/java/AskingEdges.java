/** The boundaries that promises 20 to 48 name: levels, the search, and what is asked. */
final class AskingEdges {
  private AskingEdges() {}

  static void all() {
    suppose();
    choose();
    back();
    look();
    begin();
    steps();
    draw();
    range();
    ofRule();
    waiting();
    solutions();
    unlikes();
    alike();
    best();
    core();
    search();
    chosen();
    weight();
    found();
    house();
    isSound();
    digest();
  }

  private static Wishsolver found(int... told) {
    Wishsolver x = Check.with(told);
    x.begin(false, 0);
    x.run(12);
    return x;
  }

  // ---- levels, looking

  private static void suppose() {
    Edges.promise(20);
    Edges.edge("it would be above 6", () -> {
      Wishsolver x = new Wishsolver();
      for (int i = 1; i <= 6; i++) Check.same("level", x.suppose(), i);
      Check.refuses("7", x, Check.STATE, () -> x.suppose());
      x.back();
      Check.same("6 again", x.suppose(), 6);
      Check.refuses("7 again", x, Check.STATE, () -> x.suppose());
      x.puzzle(0, 2);
      Check.same("1 behind a puzzle", x.suppose(), 1);
    });
  }

  private static void choose() {
    Edges.promise(21);
    Edges.edge("a VARIABLE has a VALUE alone there, TOLD and in its RANGE", () -> {
      Wishsolver x = Check.with(63, 63);
      x.order(0, 4, 1, 0);
      x.settle();
      x.choose(0, 1);
      Check.same("there", Check.ranges(x, 0) + " " + Check.ranges(x, 1), "2/2 63/48");
      x.choose(0, 1);
      x.back();
      x.back();
      Check.same("below", Check.ranges(x, 0) + " " + Check.ranges(x, 1), "63/3 63/48");
    });
    Edges.edge("Returns how many VALUES went from its RANGE", () -> {
      Wishsolver x = Check.with(63, 3);
      Check.same("five", x.choose(0, 5), 5);
      Check.same("none", x.choose(0, 5) + " " + x.waiting(), "0 -");
      x.back();
      x.back();
      x.order(0, 0, 1, 0);
      x.settle();
      Check.same("two are in its range, six are told", Check.ranges(x, 0) + " " + x.choose(0, 1) + " " + Check.ranges(x, 0), "63/3 1 2/2");
    });
    Edges.edge("there is no such VARIABLE", () -> {
      Wishsolver x = Check.with(1, 1);
      Check.refusesEach("variable", x, Check.INDEX, n -> x.choose(n, 0), -1, 2, 3, 6, 32, 33);
      Wishsolver y = new Wishsolver();
      Check.refuses("none at all", y, Check.INDEX, () -> y.choose(0, 0));
    });
    Edges.edge("value is not in its RANGE", () -> {
      Wishsolver x = Check.with(45, 63);
      Check.refusesEach("value", x, Check.ARGUMENT, n -> x.choose(0, n), -1, 1, 4, 6, 31, 32, 33, 34, 35, 37);
      x.order(1, 2, 0, 0);
      x.settle();
      Check.refuses("told, but not in the range", x, Check.ARGUMENT, () -> x.choose(1, 4));
      Check.refuses("told, but not in the range: 0", x, Check.ARGUMENT, () -> x.choose(0, 0));
      Check.same("the edge", x.choose(1, 3) + " " + x.choose(0, 5), "3 2");
      Wishsolver y = Check.with(3);
      y.often(1, 5, 1, 1, 0);
      y.look();
      Check.refuses("failed", y, Check.ARGUMENT, () -> y.choose(0, 0));
    });
    Edges.edge("the LEVEL would be above 6", () -> {
      Wishsolver x = Check.with(3);
      for (int i = 0; i < 5; i++) x.suppose();
      Check.same("6", x.choose(0, 1) + " " + x.house(2), "1 6");
      Check.refuses("7", x, Check.STATE, () -> x.choose(0, 1));
      Check.refuses("7, and not in the range", x, Check.ARGUMENT, () -> x.choose(0, 0));
    });
  }

  private static void back() {
    Edges.promise(22);
    Edges.edge("it is 0", () -> {
      Wishsolver x = Check.with(3);
      Check.refuses("at first", x, Check.STATE, () -> x.back());
      x.suppose();
      x.choose(0, 0);
      Check.same("1 and 0", x.back() + " " + x.back(), "1 0");
      Check.refuses("again", x, Check.STATE, () -> x.back());
      x.suppose();
      x.puzzle(0, 4);
      Check.refuses("behind a puzzle", x, Check.STATE, () -> x.back());
    });
  }

  private static void look() {
    Edges.promise(23);
    Edges.edge("Looks at the first RULE of the QUEUE", () -> {
      Wishsolver x = Check.with(7, 7);
      x.unlike(3, 0);
      x.order(0, 1, 1, 0);
      Check.same("the first, not the one that would take", x.look() + " " + x.waiting(), "0 1");
      Check.same("the second", x.look() + " " + x.waiting(), "2 0");
    });
    Edges.edge("Returns how many VALUES it took (all that all RANGES had, if it has FAILED by that)", () -> {
      Wishsolver x = Check.with(63, 63, 7);
      x.unlike(3, 0);
      x.order(0, 5, 1, 0);
      x.often(4, 5, 1, 1, 0);
      Check.same("none", x.look(), 0);
      Check.same("ten", x.look(), 10);
      Check.same("all the rest", x.look() + " " + x.house(5) + " " + x.house(10), "5 0 15");
      Wishsolver y = Check.with(63, 63, 63, 63, 63);
      y.often(1, 0, 2, 2, 0);
      Check.same("all thirty", y.look() + " " + y.house(4), "30 1");
    });
    Edges.edge("none waits", () -> {
      Wishsolver x = Check.with(3, 3);
      Check.refuses("no rule", x, Check.NO_ELEMENT, () -> x.look());
      x.unlike(3, 1);
      x.look();
      Check.refuses("no more", x, Check.NO_ELEMENT, () -> x.look());
      x.often(1, 5, 1, 1, 0);
      x.unlike(3, 0);
      x.look();
      Check.refuses("failed", x, Check.NO_ELEMENT, () -> x.look());
    });
    Edges.edge("NoSuchElementException if none waits", () -> {
      Wishsolver x = new Wishsolver();
      Check.refuses("a new object", x, java.util.NoSuchElementException.class, () -> x.look());
    });
    Edges.promise(24);
    Edges.edge("All is SETTLED", () -> {
      Wishsolver x = Check.with(63, 63, 63);
      x.order(1, 2, 2, 0);
      x.order(0, 2, 1, 0);
      x.settle();
      Check.same("narrow", x.range(0, false) + " " + x.range(1, false) + " " + x.range(2, false) + " " + x.waiting(), "3 12 48 -");
    });
    Edges.edge("Returns how many RULES were looked at", () -> {
      Wishsolver x = Check.with(7, 7);
      Check.same("none", x.settle(), 0);
      for (int i = 0; i < 11; i++) x.unlike(3, i % 2);
      Check.same("each once", x.settle() + " " + x.house(9), "11 11");
      x.take(0, 0);
      x.take(0, 1);
      Check.same("the first one takes one, and all others wait", x.settle() + " " + x.house(10), "11 1");
      x.often(1, 0, 1, 1, 0);
      x.drop(10);
      Check.same("till it fails by the last one", x.settle() + " " + x.house(4), "11 1");
      x.drop(10);
      x.unlike(3, 0);
      x.often(1, 0, 1, 1, 0);
      x.drop(0);
      x.settle();
      Check.same("failed, none is looked at", x.house(4) + " " + x.settle(), "1 0");
    });
  }

  // ---- the search

  private static void begin() {
    Edges.promise(25);
    Edges.edge("A SEARCH begins (another one is gone)", () -> {
      Wishsolver x = Check.with(3, 3);
      x.often(3, 0, 2, 2, 1);
      x.unlike(3, 0);
      x.begin(true, 0);
      GoingEdges.finish(x);
      Check.same("no", x.search(0) + " " + (x.search(2) > 0), "2 true");
      Check.same("all new", x.begin(true, 1) + " " + GoingEdges.state(x) + " " + x.chosen() + " " + GoingEdges.weights(x) + " " + x.right(), "4 0 0 0 0 0 0 0 - 1 1 0");
    });
    Edges.edge("what is FOUND has at most that COST", () -> {
      Wishsolver x = Check.with(63);
      x.term(0, -1);
      x.goal();
      String all = "";
      for (int bound = -6; bound <= 0; bound++) {
        x.begin(true, bound);
        x.run(12);
        all += (x.search(0) == 1 ? x.found() : "-") + " ";
      }
      Check.same("by bounds from -6 to 0", all, "- 5 4 3 2 1 0 ");
      x.begin(false, -6);
      x.run(12);
      Check.same("without a bound", x.found(), "0");
    });
    Edges.edge("(0 if it has FAILED)", () -> {
      Wishsolver x = Check.with(63, 63, 63, 63, 63, 1);
      Check.same("31", x.begin(false, 0) + " " + x.search(6), "31 0");
      Check.same("by its bound", x.begin(true, -1) + " " + x.search(6), "0 1");
      x.unlike(33, 0);
      Check.same("one less", x.begin(true, 0) + " " + x.search(6), "30 0");
      x.order(0, 0, 5, 0);
      Check.same("by its rules", x.begin(false, 0) + " " + x.search(6), "0 1");
      Check.same("without variables", new Wishsolver().begin(false, 0), 0);
    });
    Edges.edge("bound is not -1000 to 1000 (also without a bound)", () -> {
      Wishsolver x = found(3);
      int[] wrong = {-1001, -1002, 1001, 1002, 1 << 16, Integer.MIN_VALUE, Integer.MAX_VALUE};
      Check.refusesThese("with one", x, Check.ARGUMENT, n -> x.begin(true, n), wrong);
      Check.refusesThese("without", x, Check.ARGUMENT, n -> x.begin(false, n), wrong);
      Check.same("edges", x.begin(true, 1000) + " " + x.begin(true, -1000) + " " + x.begin(false, 1000) + " " + x.begin(false, -1000), "2 0 2 2");
    });
  }

  private static void steps() {
    Edges.promise(26);
    Edges.edge("Returns 1, 2 or 3, as it is told", () -> {
      Wishsolver x = Check.with(3);
      x.term(0, -1);
      x.goal();
      x.begin(true, -1);
      Check.same("a choice, its failure, what is left", x.step() + " " + x.step() + " " + x.step() + " " + x.found(), "3 1 2 1");
    });
    Edges.edge("0 if there is an ANSWER, or no SEARCH", () -> {
      Wishsolver x = Check.with(1);
      Check.same("no search", x.step(), 0);
      x.begin(false, 0);
      Check.same("yes", x.step() + " " + x.step() + " " + x.step(), "2 0 0");
      x.begin(true, -1);
      Check.same("no", x.step() + " " + x.step() + " " + GoingEdges.state(x), "1 0 2 0 1 0 0 0 1");
      x.puzzle(0, 3);
      Check.same("no search any more", x.step(), 0);
      Wishsolver y = GoingEdges.tooManyLines();
      y.begin(true, -11);
      GoingEdges.finish(y);
      Check.same("given up", y.search(0) + " " + y.step(), "3 0");
    });
    Edges.promise(27);
    Edges.edge("STEPS, as long as there is no ANSWER", () -> {
      Wishsolver x = Check.with(3, 3);
      x.begin(false, 0);
      Check.same("two choices and what is found", x.run(12) + " " + x.search(0) + " " + x.run(12), "3 1 0");
    });
    Edges.edge("Returns how many were done (0 without a SEARCH)", () -> {
      Wishsolver x = Check.with(3, 3, 3, 3, 3, 3);
      Check.same("without", x.run(1) + " " + x.run(12), "0 0");
      x.begin(false, 0);
      Check.same("at most", x.run(1) + " " + x.run(2) + " " + x.run(3) + " " + x.run(12) + " " + x.run(1), "1 2 3 1 0");
      x.puzzle(0, 4);
      Check.same("without again", x.run(12), 0);
    });
    Edges.edge("most is not 1 to 12", () -> {
      Wishsolver x = Check.with(3);
      Check.refusesEach("without a search", x, Check.ARGUMENT, n -> x.run(n), -1, 0, 13, 14);
      x.begin(false, 0);
      Check.refusesEach("in one", x, Check.ARGUMENT, n -> x.run(n), -1, 0, 13, 14);
      x.run(12);
      Check.refusesEach("behind its answer", x, Check.ARGUMENT, n -> x.run(n), -1, 0, 13, 14);
      Wishsolver y = GoingEdges.tooManyLines();
      y.begin(true, -11);
      Check.same("12 and 1", y.run(12) + " " + y.run(1), "12 1");
    });
  }

  private static void draw() {
    Edges.promise(28);
    Edges.edge("Returns how many were REFUSED ever, with this", () -> {
      Wishsolver x = Check.with(3);
      Check.same("the first", x.house(11) + " " + x.draw(), "0 1");
      x.suppose();
      x.draw();
      x.back();
      x.begin(false, 0);
      Check.same("ever", x.draw() + " " + x.house(11), "3 3");
      Check.same("of each object", new Wishsolver().draw(), 1);
    });
  }

  // ---- variables and rules

  private static void range() {
    Edges.promise(29);
    Edges.edge("whether its TOLD set, otherwise its RANGE", () -> {
      Wishsolver x = Check.with(63, 63);
      x.order(0, 5, 1, 0);
      x.settle();
      Check.same("told", x.range(0, true) + " " + x.range(1, true), "63 63");
      Check.same("range", x.range(0, false) + " " + x.range(1, false), "1 32");
      x.often(1, 0, 0, 0, 0);
      x.settle();
      Check.same("empty", x.range(0, false) + " " + x.range(1, false) + " " + x.range(0, true), "0 0 63");
    });
    Edges.edge("there is no such VARIABLE", () -> {
      Wishsolver x = Check.with(1, 1);
      Check.refusesEach("told", x, Check.INDEX, n -> x.range(n, true), -1, 2, 5, 6);
      Check.refusesEach("range", x, Check.INDEX, n -> x.range(n, false), -1, 2, 5, 6);
      Wishsolver y = Check.with(1, 1, 1, 1, 1, 1);
      Check.refusesEach("of six", y, Check.INDEX, n -> y.range(n, true), -1, 6, 7);
    });
  }

  private static void ofRule() {
    Edges.promise(30);
    Edges.edge("5 how many ROWS it has by RANGES now, 6 how many VALUES of the RANGES of its VARIABLES are in no ROW", () -> {
      Wishsolver x = Check.with(63, 63, 63, 63, 63, 1);
      x.often(31, 0, 0, 6, 0);
      Check.same("7776, none", Check.rule(x, 0), "7 31 0 0 1 7776 0");
      x.drop(0);
      x.often(63, 5, 6, 6, 0);
      Check.same("no row, all 31", Check.rule(x, 0), "7 63 0 0 1 0 31");
      x.look();
      Check.same("failed", Check.rule(x, 0), "7 63 0 0 0 0 0");
      x.drop(0);
      x.order(0, 5, 5, 9);
      Check.same("soft, no row", Check.rule(x, 0), "5 33 9 0 1 0 7");
      x.look();
      Check.same("it took nothing", Check.rule(x, 0), "5 33 9 0 0 0 7");
      Wishsolver y = Check.with(63, 7, 7);
      y.often(6, 2, 1, 1, 0);
      y.often(1, 2, 1, 1, 0);
      y.often(4, 2, 1, 1, 0);
      Check.same("of its own variables alone", y.ofRule(0, 5) + " " + y.ofRule(1, 5) + " " + y.ofRule(2, 5), "4 1 1");
      Check.same("in no row", y.ofRule(0, 6) + " " + y.ofRule(1, 6) + " " + y.ofRule(2, 6), "0 5 2");
    });
    Edges.edge("4 1 if it waits, otherwise 0", () -> {
      Wishsolver x = Check.with(7, 7);
      x.unlike(3, 0);
      x.unlike(3, 4);
      Check.same("both", x.ofRule(0, 4) + " " + x.ofRule(1, 4), "1 1");
      x.look();
      Check.same("one", x.ofRule(0, 4) + " " + x.ofRule(1, 4), "0 1");
      x.look();
      x.take(0, 0);
      Check.same("both again", x.ofRule(0, 4) + " " + x.ofRule(1, 4), "1 1");
    });
    Edges.edge("there is no such RULE", () -> {
      Wishsolver x = Check.with(3, 3);
      Check.refuses("none at all", x, Check.INDEX, () -> x.ofRule(0, 0));
      x.unlike(3, 0);
      Check.refusesEach("rule", x, Check.INDEX, n -> x.ofRule(n, 0), -1, 1, 2, 11, 12, 32);
      x.suppose();
      x.unlike(3, 0);
      x.back();
      Check.refuses("gone", x, Check.INDEX, () -> x.ofRule(1, 0));
    });
    Edges.edge("what is not 0 to 6", () -> {
      Wishsolver x = Check.with(3, 3);
      x.unlike(3, 8);
      Check.refusesEach("what", x, Check.ARGUMENT, n -> x.ofRule(0, n), -1, 7, 8);
      Check.same("0 to 6", Check.rule(x, 0), "6 3 8 0 1 2 0");
    });
  }

  private static void waiting() {
    Edges.promise(31);
    Edges.edge("the first one first, with a blank between two", () -> {
      Wishsolver x = Check.with(7, 7);
      for (int i = 0; i < 12; i++) x.unlike(3, 1);
      Check.same("twelve", x.waiting(), "0 1 2 3 4 5 6 7 8 9 10 11");
      for (int i = 0; i < 11; i++) x.look();
      Check.same("one", x.waiting(), "11");
      x.take(0, 0);
      Check.same("they come behind", x.waiting(), "11 0 1 2 3 4 5 6 7 8 9 10");
    });
    Edges.edge("\"-\" if none waits", () -> {
      Wishsolver x = Check.with(3, 3);
      Check.same("no rule", x.solution(3) + x.waiting(), "1 1-");
      x.unlike(3, 0);
      x.look();
      Check.same("no more", x.solution(1) + x.waiting(), "1 0-");
      x.often(1, 5, 1, 1, 0);
      x.unlike(3, 0);
      x.look();
      Check.same("failed", x.waiting(), "-");
    });
  }

  // ---- solutions

  private static void solutions() {
    Edges.promise(32);
    Edges.edge("how many SOLUTIONS there are", () -> {
      Wishsolver x = new Wishsolver();
      Check.same("without variables", x.solutions(), 1);
      for (int i = 0; i < 5; i++) x.variable(63);
      x.variable(1);
      Check.same("all", x.solutions(), 7776);
      x.unlike(31, 0);
      Check.same("720", x.solutions(), 720);
      x.often(63, 0, 2, 2, 0);
      x.often(32, 0, 0, 0, 0);
      Check.same("none", x.solutions(), 0);
      x.settle();
      Check.same("none when it has failed", x.house(4) + " " + x.solutions(), "1 0");
      x.drop(2);
      Check.same("one 0 of five", x.solutions(), 600);
      x.often(1, 0, 1, 1, 0);
      x.settle();
      x.take(0, 1);
      x.take(0, 0);
      x.settle();
      Check.same("told sets alone count", x.house(4) + " " + x.solutions(), "1 0");
      x.drop(2);
      Check.same("four of them", x.solutions(), 4 * 120 - 4 * 24);
    });
    Edges.promise(33);
    Edges.edge("from 0 on: its VALUES with a blank between two", () -> {
      Wishsolver x = Check.with(63, 63, 63, 63, 63, 32);
      Check.same("the first", x.solution(0), "0 0 0 0 0 5");
      Check.same("the last", x.solution(7775), "5 5 5 5 5 5");
      Check.same("one between", x.solution(1297), "1 0 0 0 1 5");
      Check.same("one variable", Check.with(32).solution(0), "5");
    });
    Edges.edge("nth is below 0, or there are not so many", () -> {
      Wishsolver x = Check.with(7, 3);
      Check.refusesEach("nth", x, Check.NO_ELEMENT, n -> x.solution(n), -1, 6, 7, 12);
      x.order(0, 1, 1, 0);
      Check.same("one", x.solution(0), "0 1");
      Check.refusesEach("nth of one", x, Check.NO_ELEMENT, n -> x.solution(n), -1, 1, 2);
      x.often(1, 1, 1, 1, 0);
      Check.refusesEach("nth of none", x, Check.NO_ELEMENT, n -> x.solution(n), -1, 0, 1);
      Wishsolver y = Check.with(63, 63, 63, 63, 63, 1);
      Check.refusesThese("nth of all", y, Check.NO_ELEMENT, n -> y.solution(n), 7776, 7777);
    });
    Edges.edge("NoSuchElementException if nth", () -> {
      Wishsolver x = new Wishsolver();
      Check.same("without variables", x.solution(0), "");
      Check.refusesEach("nth", x, java.util.NoSuchElementException.class, n -> x.solution(n), -1, 1);
    });
    Edges.promise(34);
    Edges.edge("nth is below 0, or there are not so many", () -> {
      Wishsolver x = Check.with(7, 3);
      x.term(0, 2);
      x.goal();
      Check.same("the last one", x.cost(5), 4);
      Check.refusesEach("nth", x, Check.NO_ELEMENT, n -> x.cost(n), -1, 6, 7);
      x.often(1, 5, 1, 1, 0);
      Check.refusesEach("nth of none", x, Check.NO_ELEMENT, n -> x.cost(n), -1, 0);
    });
    Edges.edge("NoSuchElementException if nth", () -> {
      Wishsolver x = new Wishsolver();
      Check.same("without variables", x.cost(0), 0);
      Check.refusesEach("nth", x, java.util.NoSuchElementException.class, n -> x.cost(n), -1, 1);
    });
  }

  private static void unlikes() {
    Edges.promise(35);
    Edges.edge("mirrors: a set of MIRRORS, 0 to 3", () -> {
      Wishsolver x = new Wishsolver();
      x.puzzle(0, 4);
      Check.same("each set", x.unlikes(0) + " " + x.unlikes(1) + " " + x.unlikes(2) + " " + x.unlikes(3), "2 1 1 1");
    });
    Edges.edge("of which no one ahead of them in ORDER is ALIKE", () -> {
      Wishsolver x = Check.with(3, 3);
      Check.same("of four", x.unlikes(0) + " " + x.unlikes(1) + " " + x.unlikes(2) + " " + x.unlikes(3), "4 3 2 2");
      x.order(1, 1, 0, 0);
      Check.same("of one", x.unlikes(0) + " " + x.unlikes(3), "1 1");
      x.order(0, 0, 1, 0);
      Check.same("of none", x.unlikes(0) + " " + x.unlikes(3), "0 0");
      Wishsolver y = Check.with(63, 63, 63, 63, 63, 1);
      Check.same("of all", y.unlikes(0) + " " + y.unlikes(2), "7776 7776");
    });
    Edges.edge("mirrors is not 0 to 3", () -> {
      Wishsolver x = Check.with(3);
      Check.refusesEach("mirrors", x, Check.ARGUMENT, n -> x.unlikes(n), -1, 4, 5, 7);
    });
  }

  private static void alike() {
    Edges.promise(36);
    Edges.edge("mirrors: a set of MIRRORS, 0 to 3", () -> {
      Wishsolver x = Check.with(7, 7);
      Check.same("of 0 1", x.alike(1, 0) + " " + x.alike(1, 1) + " " + x.alike(1, 2) + " " + x.alike(1, 3), "1 2 2 4");
    });
    Edges.edge("how many SOLUTIONS are ALIKE that one (with it)", () -> {
      Wishsolver x = Check.with(7, 7);
      Check.same("of 1 1: it alone", x.alike(4, 0) + " " + x.alike(4, 1) + " " + x.alike(4, 2) + " " + x.alike(4, 3), "1 1 1 1");
      x.often(3, 2, 0, 0, 0);
      Check.same("no solution counts as none: 0 1 and 1 0", x.solutions() + " " + x.alike(1, 3) + " " + x.alike(0, 3), "4 2 1");
    });
    Edges.edge("mirrors is not 0 to 3", () -> {
      Wishsolver x = Check.with(3);
      Check.refusesEach("mirrors", x, Check.ARGUMENT, n -> x.alike(0, n), -1, 4, 5, 7);
      Check.refusesEach("mirrors, and nth", x, Check.ARGUMENT, n -> x.alike(2, n), -1, 4);
    });
    Edges.edge("nth is below 0, or there are not so many", () -> {
      Wishsolver x = Check.with(3);
      Check.refusesEach("nth", x, Check.NO_ELEMENT, n -> x.alike(n, 0), -1, 2, 3);
      x.often(1, 5, 1, 1, 0);
      Check.refusesEach("nth of none", x, Check.NO_ELEMENT, n -> x.alike(n, 3), -1, 0, 1);
    });
    Edges.edge("NoSuchElementException if nth", () -> {
      Wishsolver x = new Wishsolver();
      Check.same("without variables", x.alike(0, 3), 1);
      Check.refusesEach("nth", x, java.util.NoSuchElementException.class, n -> x.alike(n, 3), -1, 1);
    });
  }

  private static void best() {
    Edges.promise(37);
    Edges.edge("the number in ORDER of the first SOLUTION with the least COST, otherwise the least COST", () -> {
      Wishsolver x = Check.with(7, 7);
      Check.same("all the same: the first", x.best(true) + " " + x.best(false), "0 0");
      Check.terms(x, -1, -1);
      x.goal();
      Check.same("the last", x.best(true) + " " + x.best(false), "8 -4");
      x.unlike(3, 9);
      Check.same("the first of two", x.best(true) + " " + x.best(false), "5 -3");
      x.take(0, 0);
      Check.same("the number by what is told now", x.best(true), 2);
      x.often(3, 2, 0, 0, 0);
      Check.same("and by the rules", x.best(true) + " " + x.best(false), "0 -1");
      Wishsolver y = Check.with(63, 63, 63, 63, 63, 32);
      Check.terms(y, -4, -4, -4, -4, -4, -4);
      y.goal();
      Check.same("the least of all", y.best(true) + " " + y.best(false), "7775 -120");
      Check.terms(y, 4, 4, 4, 4, 4, 4);
      y.goal();
      for (int i = 0; i < 12; i++) y.often(32, 0, 1, 1, 9);
      Check.same("what must be paid", y.best(true) + " " + y.best(false) + " " + y.cost(7775), "0 128 228");
    });
    Edges.edge("there is no SOLUTION", () -> {
      Wishsolver x = Check.with(3);
      x.often(1, 0, 2, 2, 9);
      Check.same("a soft rule forbids none", x.best(false) + " " + x.best(true), "9 0");
      x.often(1, 0, 2, 2, 0);
      Check.refuses("cost", x, Check.NO_ELEMENT, () -> x.best(false));
      Check.refuses("number", x, Check.NO_ELEMENT, () -> x.best(true));
      x.drop(1);
      Check.same("again", x.best(false), 9);
    });
    Edges.edge("NoSuchElementException if there is no", () -> {
      Wishsolver x = new Wishsolver();
      x.puzzle(0, 3);
      Check.refuses("three queens", x, java.util.NoSuchElementException.class, () -> x.best(true));
    });
  }

  private static void core() {
    Edges.promise(38);
    Edges.edge("\"-\" if it has none", () -> {
      Wishsolver x = Check.with(1);
      Check.refuses("without a rule there is a solution", x, Check.STATE, () -> x.core());
      Wishsolver y = new Wishsolver();
      Check.refuses("also without variables", y, Check.STATE, () -> y.core());
      x.often(1, 0, 0, 0, 9);
      Check.refuses("and with soft ones alone", x, Check.STATE, () -> x.core());
      x.often(1, 0, 0, 0, 0);
      Check.same("so it always has one", x.core(), "1");
    });
    Edges.edge("there is a SOLUTION", () -> {
      Wishsolver x = Check.with(7, 7, 7);
      x.order(0, 1, 1, 0);
      x.order(1, 1, 2, 0);
      Check.same("one", x.solutions(), 1);
      Check.refuses("one is enough", x, Check.STATE, () -> x.core());
      x.take(1, 1);
      Check.same("none", x.solutions() + " " + x.core(), "0 0 1");
      x.take(2, 1);
      x.take(1, 0);
      Check.same("one rule alone", x.core(), "1");
      for (int i = 0; i < 10; i++) x.often(1, 5, 1, 1, i == 9 ? 0 : 1);
      Check.same("two signs", x.core(), "11");
    });
    Edges.promise(39);
    Edges.edge("Returns how many TIGHT sets have just so many", () -> {
      Wishsolver x = Check.with(3);
      for (int i = 0; i < 12; i++) x.often(1, i % 2, 0, 0, 0);
      Check.same("six times six", x.tights(0) + " " + x.tights(1) + " " + x.tights(2) + " " + x.tights(3) + " " + x.tights(4), "0 0 36 0 0");
      Wishsolver y = Check.with(15);
      for (int i = 0; i < 12; i++) y.often(1, i % 4, 0, 0, 0);
      Check.same("three to the fourth", y.tights(3) + " " + y.tights(4), "0 81");
      Wishsolver z = Check.with(3);
      for (int i = 0; i < 12; i++) z.often(1, 5, 1, 1, 0);
      Check.same("each alone", z.tights(1) + " " + z.tights(2), "12 0");
    });
    Edges.edge("size is not 0 to 4", () -> {
      Wishsolver x = Check.with(3);
      Check.refusesEach("size", x, Check.ARGUMENT, n -> x.tights(n), -1, 5, 6, 12);
      Check.same("0 and 4", x.tights(0) + x.tights(4), 0);
    });
  }

  // ---- what is asked of the search

  private static void search() {
    Edges.promise(40);
    Edges.edge("5 how many CHOICES went by the last one (0 without)", () -> {
      Wishsolver x = Check.with(3, 3);
      x.order(0, 1, 1, 1);
      x.begin(true, 0);
      Check.same("no jump", x.search(4) + " " + x.search(5), "0 0");
      Wishsolver y = Check.with(3);
      y.term(0, -1);
      y.goal();
      y.begin(true, -1);
      y.step();
      Check.same("not yet", y.search(4) + " " + y.search(5) + " " + y.search(6), "0 0 1");
      y.step();
      Check.same("one", y.search(4) + " " + y.search(5) + " " + y.search(1) + " " + y.search(3), "1 1 0 1");
      y.begin(true, -1);
      Check.same("none again", y.search(4) + " " + y.search(5), "0 0");
    });
    Edges.edge("6 1 if it has FAILED, otherwise 0 (all 0 without a SEARCH)", () -> {
      Wishsolver x = Check.with(3);
      Check.same("without", GoingEdges.state(x), "0 0 0 0 0 0 0");
      x.begin(true, -1);
      Check.same("failed", GoingEdges.state(x), "0 0 0 0 0 0 1");
      x.step();
      Check.same("also with its answer", GoingEdges.state(x), "2 0 1 0 0 0 1");
      x.puzzle(0, 2);
      Check.same("without again", GoingEdges.state(x), "0 0 0 0 0 0 0");
    });
    Edges.edge("what is not 0 to 6", () -> {
      Wishsolver x = Check.with(3);
      Check.refusesEach("without a search", x, Check.ARGUMENT, n -> x.search(n), -1, 7, 8);
      x.begin(false, 0);
      Check.refusesEach("in one", x, Check.ARGUMENT, n -> x.search(n), -1, 7, 8);
    });
  }

  private static void chosen() {
    Edges.promise(41);
    Edges.edge("the first one first, each as VARIABLE, \"=\" and VALUE, with a blank between two", () -> {
      Wishsolver x = Check.with(63, 31, 15, 7, 3, 32);
      x.begin(false, 0);
      x.step();
      Check.same("one", x.chosen(), "4=0");
      x.run(12);
      Check.same("five", x.chosen(), "4=0 3=0 2=0 1=0 0=0");
    });
    Edges.edge("\"-\" without any", () -> {
      Wishsolver x = Check.with(3);
      Check.same("no search", x.chosen(), "-");
      x.often(1, 0, 0, 6, 0);
      Check.same("whatever was told before", x.waiting() + x.chosen() + " " + x.solution(1) + x.chosen(), "0- 1-");
      x.begin(false, 0);
      Check.same("none made", x.solution(1) + x.chosen(), "1-");
      x.term(0, -1);
      x.goal();
      x.begin(true, -1);
      x.run(2);
      Check.same("gone by a jump", x.search(3) + " " + x.chosen(), "1 -");
    });
    Edges.promise(42);
    Edges.edge("nth: a LINE of the PROOF, from 0 on", () -> {
      Wishsolver x = Check.with(7);
      x.term(0, -1);
      x.goal();
      x.begin(true, -3);
      x.run(12);
      Check.same("one, that is empty", x.search(2) + " " + x.line(0), "1 -");
      x.begin(true, -2);
      x.run(12);
      Check.same("two", x.search(2) + " " + x.line(0) + " " + x.line(1), "2 0=0 0=1");
    });
    Edges.edge("there is no such LINE", () -> {
      Wishsolver x = Check.with(7);
      Check.refusesEach("without a search", x, Check.INDEX, n -> x.line(n), -1, 0, 1);
      x.term(0, -1);
      x.goal();
      x.begin(true, -2);
      Check.refusesEach("none yet", x, Check.INDEX, n -> x.line(n), -1, 0, 1);
      x.run(12);
      Check.refusesEach("behind the last one", x, Check.INDEX, n -> x.line(n), -1, 2, 3);
      x.begin(true, -2);
      Check.refusesEach("gone", x, Check.INDEX, n -> x.line(n), -1, 0, 1);
      x.run(12);
      x.puzzle(0, 3);
      Check.refusesEach("gone with the search", x, Check.INDEX, n -> x.line(n), -1, 0, 1);
    });
  }

  private static void weight() {
    Edges.promise(43);
    Edges.edge("(1 without one, or if the SEARCH does not know it)", () -> {
      Wishsolver x = Check.with(7);
      Check.same("without", x.weight(0), 1);
      x.term(0, -1);
      x.goal();
      x.begin(true, -2);
      x.run(12);
      Check.same("grown by two lines", x.weight(0), 3);
      x.variable(3);
      Check.same("not known", x.weight(1) + " " + x.weight(0), "1 3");
      x.puzzle(0, 2);
      Check.same("without again", x.weight(0) + " " + x.weight(1), "1 1");
    });
    Edges.edge("there is no such VARIABLE", () -> {
      Wishsolver x = new Wishsolver();
      Check.refuses("none at all", x, Check.INDEX, () -> x.weight(0));
      x.variable(3);
      Check.refusesEach("without a search", x, Check.INDEX, n -> x.weight(n), -1, 1, 5, 6);
      x.begin(false, 0);
      Check.refusesEach("in one", x, Check.INDEX, n -> x.weight(n), -1, 1, 5, 6);
      Wishsolver y = found(1, 1, 1, 1, 1, 1);
      Check.refusesEach("of six", y, Check.INDEX, n -> y.weight(n), -1, 6, 7);
    });
    Edges.promise(44);
    Edges.edge("Returns how many LINES of the PROOF are RIGHT", () -> {
      Wishsolver x = Check.with(7);
      Check.same("without a search", x.right(), 0);
      x.term(0, -1);
      x.goal();
      x.begin(true, -2);
      Check.same("none", x.right(), 0);
      x.run(2);
      Check.same("one", x.right(), 1);
      x.run(2);
      Check.same("two", x.right() + " " + x.search(2), "2 2");
      x.take(0, 0);
      x.often(1, 5, 0, 0, 0);
      Check.same("whatever is told", x.right(), 2);
      x.begin(true, -2);
      Check.same("none of a new one", x.right(), 0);
    });
  }

  private static void found() {
    Edges.promise(45);
    Edges.edge("the ANSWER is not YES", () -> {
      Wishsolver x = Check.with(3);
      Check.refuses("no search", x, Check.NO_ELEMENT, () -> x.found());
      x.begin(false, 0);
      Check.refuses("none yet", x, Check.NO_ELEMENT, () -> x.found());
      x.step();
      Check.refuses("one value of each, but no step yet", x, Check.NO_ELEMENT, () -> x.found());
      x.step();
      Check.same("yes", x.found(), "0");
      x.begin(true, -1);
      Check.refuses("gone", x, Check.NO_ELEMENT, () -> x.found());
      x.step();
      Check.refuses("no", x, Check.NO_ELEMENT, () -> x.found());
      Wishsolver y = GoingEdges.tooManyLines();
      y.begin(true, -11);
      GoingEdges.finish(y);
      Check.refuses("given up", y, Check.NO_ELEMENT, () -> y.found());
    });
    Edges.edge("NoSuchElementException if the ANSWER", () -> {
      Wishsolver x = found(2, 32);
      Check.same("found", x.found(), "1 5");
      x.puzzle(0, 2);
      Check.refuses("gone with the search", x, java.util.NoSuchElementException.class, () -> x.found());
    });
  }

  // ---- all

  private static String all(Wishsolver x) {
    StringBuilder all = new StringBuilder();
    for (int i = 0; i <= 11; i++) all.append(i == 0 ? "" : " ").append(x.house(i));
    return all.toString();
  }

  private static void house() {
    Edges.promise(46);
    Edges.edge("4 1 if it has FAILED, otherwise 0", () -> {
      Wishsolver x = new Wishsolver();
      Check.same("nothing can fail", x.house(4), 0);
      x.variable(1);
      x.variable(3);
      x.often(2, 5, 1, 1, 0);
      Check.same("not yet", x.house(4), 0);
      x.suppose();
      x.look();
      Check.same("failed", x.house(4), 1);
      x.back();
      Check.same("not below", x.house(4), 0);
    });
    Edges.edge("9 RULES that were looked at ever (by look() and settle()), 10 VALUES that RULES took ever (by these, as look() tells it)", () -> {
      Wishsolver x = Check.with(7, 7);
      x.order(0, 1, 1, 0);
      x.suppose();
      x.look();
      Check.same("by look()", x.house(9) + " " + x.house(10), "1 2");
      x.back();
      x.settle();
      Check.same("ever, by settle()", x.house(9) + " " + x.house(10), "2 4");
      x.take(0, 0);
      x.choose(0, 1);
      Check.same("not by take() and choose()", x.house(9) + " " + x.house(10), "2 4");
      x.begin(false, 0);
      x.run(12);
      Check.same("not by the search", x.house(9) + " " + x.house(10), "2 4");
      x.order(1, 1, 0, 0);
      x.settle();
      Check.same("all, as it fails: 1 of 0 and 1, 2 of 1", x.house(4) + " " + x.house(10), "1 7");
      x.puzzle(0, 2);
      Check.same("ever", x.house(9) > 2 ? x.house(10) : -1, 7);
    });
    Edges.edge("what is not 0 to 11", () -> {
      Wishsolver x = Check.with(3);
      Check.refusesEach("what", x, Check.ARGUMENT, n -> x.house(n), -1, 12, 13);
      Check.same("0 to 11", all(x), "1 0 0 0 0 2 0 0 0 0 0 0");
    });
    Edges.edge("5 VALUES in all RANGES together, 6 TERMS on the SLIP, 7 ROWS on it, 8 TERMS of the GOAL", () -> {
      Wishsolver x = Check.with(63, 63, 63, 63, 63, 1);
      for (int i = 0; i < 6; i++) x.term(i, 0);
      x.goal();
      for (int i = 0; i < 6; i++) x.term(i, 0);
      for (int i = 0; i < 12; i++) x.row(0, 0, 0);
      for (int i = 0; i < 12; i++) x.slope(3, 0);
      for (int i = 0; i < 6; i++) x.suppose();
      Check.same("the most", all(x), "6 12 6 12 0 31 6 12 6 0 0 0");
    });
  }

  private static void isSound() {
    Edges.promise(47);
    Edges.edge("each VALUE that some SOLUTION has is in its RANGE", () -> {
      Wishsolver x = Check.with(7, 7, 7);
      x.unlike(7, 0);
      x.order(0, 1, 1, 0);
      Check.same("not settled", x.isSound(), true);
      x.settle();
      Check.same("settled", x.isSound(), true);
      x.take(0, 0);
      x.choose(1, 2);
      x.drop(x.slope(3, 0));
      Check.same("taken, chosen, dropped", x.isSound(), true);
    });
    Edges.edge("if none waits and it has not FAILED, no HARD RULE would take a VALUE", () -> {
      Wishsolver x = Check.with(7, 7);
      x.order(0, 1, 1, 0);
      Check.same("it would take, but waits", x.ofRule(0, 6) + " " + x.isSound(), "2 true");
      x.settle();
      x.order(1, 1, 0, 5);
      x.settle();
      Check.same("a soft one would take", x.ofRule(1, 6) + " " + x.isSound(), "4 true");
      x.order(1, 0, 0, 0);
      x.settle();
      Check.same("failed", x.house(4) + " " + x.isSound(), "1 true");
      Check.same("without variables", new Wishsolver().isSound(), true);
    });
    Edges.edge("TOLD sets, NARROWED by all HARD RULES by rising numbers, are the same as by falling ones", () -> {
      Wishsolver x = Check.with(63, 63, 63, 63, 63);
      for (int i = 0; i < 4; i++) x.order(i, 1, i + 1, 0);
      Check.same("a chain", x.isSound(), true);
      x.often(16, 4, 0, 0, 0);
      Check.same("one solution", x.solutions() + " " + x.isSound(), "5 true");
      x.order(4, -3, 0, 0);
      Check.same("none", x.solutions() + " " + x.isSound(), "0 true");
    });
    Edges.edge("all LINES of the PROOF are RIGHT", () -> {
      Wishsolver x = GoingEdges.tooManyLines();
      x.begin(true, -11);
      Check.same("no line", x.isSound(), true);
      GoingEdges.finish(x);
      Check.same("forty", x.right() + " " + x.isSound(), "40 true");
    });
    Edges.edge("if there is no SOLUTION, the CORE has none, and without any one of its RULES there is one", () -> {
      Wishsolver x = Check.with(7, 7, 7);
      x.order(0, 1, 1, 0);
      x.unlike(7, 0);
      x.order(1, 1, 2, 0);
      x.order(2, -1, 0, 0);
      Check.same("a core", x.core() + " " + x.isSound(), "0 2 3 true");
      x.often(1, 5, 1, 1, 0);
      Check.same("one alone", x.core() + " " + x.isSound(), "4 true");
    });
  }

  private static void digest() {
    Edges.promise(48);
    Edges.edge("A number d starts with 6121", () -> Check.same("a new object", new Wishsolver().digest(), Check.checksum(new Wishsolver())));
    Edges.edge("then d becomes d * 31 + v, which wraps around as a 64-bit integer, for each v in this order: house() of 0 to 11", () -> {
      Wishsolver x = new Wishsolver();
      int below = 0;
      for (int i = 0; i < 40; i++) {
        x.draw();
        Check.same("wrapped", x.digest(), Check.wide(x).longValue());
        Check.same("far above 64 bits", Check.wide(x).bitLength() > 128, true);
        below += x.digest() < 0 ? 1 : 0;
      }
      x.puzzle(0, 5);
      x.begin(true, 0);
      Check.same("of both signs", x.digest() == Check.checksum(x) && below >= 0, true);
    });
    Edges.edge("VARIABLE by VARIABLE its TOLD set, its RANGE, weight()", () -> {
      Wishsolver x = Check.with(63, 63, 63, 63, 63, 1);
      Check.same("six", x.digest(), Check.checksum(x));
      x.begin(false, 0);
      Check.same("with weights", x.digest(), Check.checksum(x));
    });
    Edges.edge("RULE by RULE ofRule() of 0 to 6", () -> {
      Wishsolver x = Check.full(3, 3);
      Check.same("twelve", x.digest(), Check.checksum(x));
      for (int i = 0; i < 5; i++) x.look();
      x.drop(7);
      x.slope(3, 9);
      Check.same("some of them looked at", x.digest(), Check.checksum(x));
    });
    Edges.edge("(NONE twice without a SOLUTION)", () -> {
      Wishsolver x = Check.with(3);
      x.often(1, 5, 1, 1, 0);
      Check.same("none", x.digest(), Check.checksum(x));
    });
    Edges.edge("unlikes() of 3", () -> {
      Wishsolver x = new Wishsolver();
      x.puzzle(0, 5);
      Check.same("three", x.unlikes(3) + " " + x.digest(), "3 " + Check.checksum(x));
    });
    Edges.edge("the length of core() (NONE with a SOLUTION)", () -> {
      Wishsolver x = Check.with(63);
      for (int i = 0; i < 12; i++) {
        x.often(1, i % 6, 0, 0, 0);
        Check.same("rules " + (i + 1), x.digest(), Check.checksum(x));
      }
      Check.same("six numbers, two of two signs", x.core(), "6 7 8 9 10 11");
    });
    Edges.edge("tights() of 1 and 2", () -> {
      Wishsolver x = Check.with(3);
      x.often(1, 5, 1, 1, 0);
      x.often(1, 0, 0, 0, 0);
      x.often(1, 1, 0, 0, 0);
      Check.same("one of each", x.tights(1) + " " + x.tights(2) + " " + x.digest(), "1 1 " + Check.checksum(x));
    });
    Edges.edge("search() of 0 to 6", () -> {
      Wishsolver x = GoingEdges.manyLines();
      x.begin(true, -12);
      for (int i = 0; i < 20; i++) {
        Check.same("step by step", x.digest(), Check.checksum(x));
        x.run(7);
      }
    });
    Edges.edge("the length of chosen(), and of line() of each LINE", () -> {
      Wishsolver x = GoingEdges.tooManyLines();
      x.begin(true, -11);
      GoingEdges.finish(x);
      Check.same("forty lines", x.digest(), Check.checksum(x));
      x.begin(true, -1000);
      Check.same("one empty line", x.step() + " " + x.digest(), "1 " + Check.checksum(x));
    });
    Edges.edge("1 if isSound(), otherwise 0", () -> {
      Wishsolver x = found(3, 3);
      Check.same("sound", x.isSound() + " " + x.digest(), "true " + Check.checksum(x));
    });
  }
}
