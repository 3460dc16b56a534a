/** The boundaries that the description names of narrowing, levels, the search, mirrors, cores and puzzles. */
final class GoingEdges {
  private GoingEdges() {}

  static void all() {
    looking();
    queue();
    levels();
    bounds();
    learning();
    jumping();
    choosing();
    mirrors();
    cores();
    puzzles();
  }

  private static String ranges(Wishsolver x) {
    StringBuilder all = new StringBuilder();
    for (int i = 0; i < x.house(0); i++) all.append(i == 0 ? "" : " ").append(x.range(i, false));
    return all.toString();
  }

  static String state(Wishsolver x) {
    StringBuilder all = new StringBuilder();
    for (int i = 0; i <= 6; i++) all.append(i == 0 ? "" : " ").append(x.search(i));
    return all.toString();
  }

  static String lines(Wishsolver x) {
    StringBuilder all = new StringBuilder();
    for (int i = 0; i < x.search(2); i++) all.append(i == 0 ? "" : ", ").append(x.line(i));
    return all.toString();
  }

  static String weights(Wishsolver x) {
    StringBuilder all = new StringBuilder();
    for (int i = 0; i < x.house(0); i++) all.append(i == 0 ? "" : " ").append(x.weight(i));
    return all.toString();
  }

  static void finish(Wishsolver x) {
    for (int i = 0; i < 30; i++) x.run(12);
  }

  // ---- section 2

  private static void looking() {
    Edges.in("2");
    Edges.edge("all VALUES that are in no ROW of it go from the RANGES of its VARIABLES", () -> {
      Wishsolver x = Check.with(63, 63, 63);
      x.order(0, 5, 1, 0);
      Check.same("all but one of two", x.look() + " " + ranges(x), "10 1 32 63");
      Wishsolver y = Check.with(15, 15, 15);
      y.order(0, -5, 1, 0);
      Check.same("none", y.look() + " " + ranges(y), "0 15 15 15");
      Wishsolver z = Check.with(63, 63, 63);
      z.product(0, 1, 2, 0);
      z.take(0, 0);
      z.take(1, 0);
      Check.same("one of the third", z.look() + " " + ranges(z), "1 62 62 62");
    });
    Edges.edge("a SOFT one takes nothing, but waits and is looked at likewise", () -> {
      Wishsolver x = Check.with(3, 3);
      x.order(0, 1, 1, 1);
      x.often(3, 0, 3, 6, 9);
      Check.same("they wait", x.waiting(), "0 1");
      Check.same("nothing goes", x.look() + " " + x.look() + " " + ranges(x), "0 0 3 3");
      Check.same("looked at", x.house(9) + " " + x.house(4) + " " + x.waiting(), "2 0 -");
      x.take(0, 0);
      Check.same("they come again", x.waiting(), "0 1");
    });
    Edges.edge("If a RANGE is empty then, it has FAILED: all RANGES are empty, and nothing waits", () -> {
      Wishsolver x = Check.with(3, 3, 3);
      x.often(1, 5, 1, 6, 0);
      x.unlike(6, 0);
      x.unlike(7, 4);
      Check.same("by a look", x.look() + " " + x.house(4) + " " + ranges(x) + " " + x.waiting(), "6 1 0 0 0 -");
      Check.same("told sets stay", x.range(0, true) + " " + x.range(2, true), "3 3");
      Wishsolver y = Check.with(3, 3, 3);
      y.often(1, 0, 0, 0, 0);
      y.settle();
      y.unlike(6, 0);
      Check.same("by take()", y.take(0, 1) + " " + y.house(4) + " " + ranges(y) + " " + y.waiting(), "0 1 0 0 0 -");
      Wishsolver z = Check.with(3, 3, 3);
      z.often(1, 0, 0, 0, 0);
      z.settle();
      Check.same("one value is enough", z.house(4) + " " + ranges(z), "0 2 3 3");
      Wishsolver u = Check.with(1);
      u.often(1, 0, 0, 0, 0);
      Check.same("of one variable", u.look() + " " + u.house(4) + " " + ranges(u), "1 1 0");
    });
  }

  private static void queue() {
    Edges.edge("each once", () -> {
      Wishsolver x = Check.with(15, 15);
      x.unlike(3, 0);
      x.slope(3, 0);
      x.take(0, 0);
      x.take(0, 1);
      x.take(1, 0);
      Check.same("they waited", x.waiting() + " " + x.house(3), "0 1 2");
      x.look();
      x.take(0, 2);
      Check.same("one waited, one comes", x.waiting(), "1 0");
    });
    Edges.edge("A RULE that comes stands behind all (none of a house that has FAILED)", () -> {
      Wishsolver x = Check.with(7, 7);
      x.unlike(3, 0);
      x.slope(3, 9);
      x.look();
      x.take(0, 0);
      x.order(0, 0, 1, 0);
      Check.same("behind all", x.waiting(), "1 0 2");
      x.often(1, 5, 1, 1, 0);
      x.settle();
      Check.same("failed", x.house(4) + " " + x.often(1, 5, 0, 6, 0) + " " + x.unlike(3, 1) + " " + x.waiting(), "1 4 5 -");
      Check.same("dropped it waits", x.drop(3) + " " + x.waiting(), "5 0 1 2 3 4");
    });
    Edges.edge("all RULES with that VARIABLE that do not wait come behind all, by rising numbers", () -> {
      Wishsolver x = Check.with(7, 7, 7);
      for (int i = 0; i < 12; i++) x.often(1 << i % 3, 5, 0, 6, i % 2);
      for (int i = 0; i < 8; i++) x.look();
      x.take(0, 0);
      Check.same("four wait; of 0, 3 and 6 none", x.waiting(), "8 9 10 11 0 3 6");
      x.take(1, 0);
      Check.same("then those of 1", x.waiting(), "8 9 10 11 0 3 6 1 4 7");
    });
    Edges.edge("those of a RULE that is looked at once it was, without itself, VARIABLE by VARIABLE, by rising numbers, that lost some", () -> {
      Wishsolver x = Check.with(7, 7, 7);
      x.often(4, 5, 0, 6, 0);
      x.often(2, 5, 0, 6, 0);
      x.often(1, 5, 0, 6, 0);
      x.order(1, 2, 2, 0);
      for (int i = 0; i < 3; i++) x.look();
      Check.same("those of 1, then of 2; 0 lost none", x.look() + " " + x.waiting(), "4 1 0");
      Wishsolver z = Check.with(7, 7, 7);
      z.often(4, 5, 0, 6, 0);
      z.often(1, 5, 0, 6, 0);
      z.often(5, 5, 0, 6, 0);
      z.order(0, 2, 2, 0);
      for (int i = 0; i < 3; i++) z.look();
      Check.same("those of 0, then of 2", z.look() + " " + z.waiting(), "4 1 2 0");
      Wishsolver y = Check.with(7, 7);
      y.unlike(3, 0);
      y.order(0, 1, 1, 0);
      Check.same("it does not come itself", y.look() + " " + y.look() + " " + y.waiting(), "0 2 0");
    });
    Edges.edge("of take() and choose() as they are done", () -> {
      Wishsolver x = Check.with(7, 7, 7);
      x.order(0, 0, 1, 0);
      x.order(1, 0, 2, 2);
      x.settle();
      x.choose(1, 2);
      Check.same("choose()", x.waiting(), "0 1");
      x.settle();
      Check.same("nothing went", x.choose(1, 2) + " " + x.waiting(), "0 -");
      x.take(0, 0);
      x.settle();
      Check.same("one went", x.choose(0, 2) + " " + x.waiting() + " " + x.back(), "1 0 2");
      x.take(2, 0);
      Check.same("take()", x.waiting(), "1");
      x.settle();
      x.take(0, 2);
      Check.same("take() once more", x.waiting(), "0");
      x.settle();
      x.order(1, 0, 0, 0);
      x.settle();
      Check.same("not in the range, only told", ranges(x) + " " + x.house(4), "0 0 0 1");
    });
    Edges.edge("the first one of the QUEUE is looked at, till none waits", () -> {
      Wishsolver x = Check.with(63, 63, 63);
      Check.same("none", x.settle(), 0);
      x.order(0, 1, 1, 0);
      x.order(1, 1, 2, 0);
      x.order(2, -3, 0, 0);
      Check.same("looks", x.settle() > 3, true);
      Check.same("none waits", x.waiting() + " " + x.settle(), "- 0");
      for (int i = 0; i < 3; i++) Check.same("nothing more would go", x.ofRule(i, 6), 0);
    });
  }

  private static void levels() {
    Edges.edge("LEVEL is 0 at first, at most 6", () -> {
      Wishsolver x = Check.with(3);
      Check.same("0", x.house(2), 0);
      Check.refuses("none below", x, Check.STATE, () -> x.back());
      for (int i = 1; i <= 6; i++) Check.same("level", (i % 2 == 0 ? x.suppose() : 1 + x.choose(0, 0) * 0) >= 1 && x.house(2) == i, true);
      Check.refuses("no 7", x, Check.STATE, () -> x.suppose());
      Check.refuses("no 7 by choose()", x, Check.STATE, () -> x.choose(0, 0));
      for (int i = 5; i >= 0; i--) Check.same("back", x.back(), i);
      Check.refuses("none below again", x, Check.STATE, () -> x.back());
    });
    Edges.edge("With a new LEVEL all is kept as it is", () -> {
      Wishsolver x = Check.with(7, 7);
      x.order(0, 1, 1, 0);
      x.unlike(3, 2);
      x.look();
      String before = Check.ranges(x, 0) + " " + Check.ranges(x, 1) + " " + x.waiting() + " " + x.house(1);
      x.suppose();
      Check.same("as it was", Check.ranges(x, 0) + " " + Check.ranges(x, 1) + " " + x.waiting() + " " + x.house(1), before);
      x.take(0, 0);
      x.take(1, 2);
      Check.same("failed above", x.settle() + " " + x.house(4), "2 1");
      x.back();
      Check.same("as it was below", Check.ranges(x, 0) + " " + Check.ranges(x, 1) + " " + x.waiting() + " " + x.house(1), before);
      x.suppose();
      x.settle();
      x.suppose();
      x.drop(x.slope(3, 0));
      x.back();
      Check.same("nothing waits below", x.waiting(), "-");
      x.back();
      Check.same("the queue as it was two below", x.waiting(), "1");
    });
    Edges.edge("RULES that came since are gone", () -> {
      Wishsolver x = Check.with(7, 7);
      for (int i = 0; i < 11; i++) x.unlike(3, i % 10);
      x.suppose();
      x.order(0, 0, 1, 9);
      Check.refuses("12", x, Check.STATE, () -> x.order(0, 0, 1, 0));
      x.back();
      Check.same("11 again", x.house(1) + " " + x.order(1, 2, 0, 8) + " " + x.ofRule(11, 2) + " " + x.ofRule(11, 3), "11 11 8 0");
      x.suppose();
      Check.same("none came, none goes", x.back() + " " + x.house(1), "0 12");
    });
    Edges.edge("SLIP, GOAL and the SEARCH stay", () -> {
      Wishsolver x = Check.with(7, 7);
      x.suppose();
      x.term(0, 3);
      x.goal();
      x.term(1, 1);
      x.row(0, 0, 0);
      x.begin(false, 0);
      x.run(3);
      x.back();
      Check.same("all of them", x.house(6) + " " + x.house(7) + " " + x.house(8) + " " + x.cost(3) + " " + x.found(), "1 1 1 3 0 0");
    });
  }

  // ---- section 3

  private static void bounds() {
    Edges.in("3");
    Edges.edge("as they are when it begins, whatever is told later, and has its own RANGES: the TOLD sets at first", () -> {
      Wishsolver x = Check.with(7, 7);
      x.order(0, 1, 1, 0);
      x.settle();
      x.take(0, 0);
      Check.same("told at first: 1 and 2", x.begin(true, 0), 2);
      x.drop(0);
      x.variable(3);
      x.term(0, 4);
      x.goal();
      x.take(0, 1);
      x.unlike(3, 0);
      Check.same("what it found", x.run(12) + " " + x.found(), "1 1 2");
      Check.same("told now", x.begin(false, 0), 1 + 2 + 2);
    });
    Edges.edge("are looked at, till nothing goes any more", () -> {
      Wishsolver x = Check.with(63, 63, 63, 63, 63);
      for (int i = 0; i < 4; i++) x.order(3 - i, 1, 4 - i, 0);
      Check.same("down and up", x.begin(false, 0), 10);
      x.order(4, -3, 0, 0);
      Check.same("till it fails", x.begin(false, 0) + " " + x.search(6), "0 1");
    });
    Edges.edge("and the LOWEST is above that, it FAILS, too", () -> {
      Wishsolver x = Check.with(12, 48);
      Check.terms(x, 3, -2);
      x.goal();
      Check.same("6 less 10 is -4", x.begin(true, -4) + " " + x.search(6), "4 0");
      Check.same("-5 is below", x.begin(true, -5) + " " + x.search(6), "0 1");
      Check.same("without a bound", x.begin(false, -5) + " " + x.search(6), "4 0");
    });
    Edges.edge("and of the PRICES of all SOFT RULES without a ROW by RANGES", () -> {
      Wishsolver x = Check.with(7, 7);
      x.order(0, 3, 1, 4);
      x.order(1, 3, 0, 5);
      x.order(0, 2, 1, 9);
      Check.same("two without a row", x.begin(true, 9) + " " + x.begin(true, 8), "6 0");
      x.begin(true, 17);
      Check.same("one more by its choices", x.run(2) + " " + x.search(6) + " " + x.step() + " " + x.line(0), "2 1 1 1=0");
      Check.same("what is left", x.run(12) + " " + x.line(1) + " " + x.found(), "4 1=1 0 2");
      x.begin(true, 18);
      Check.same("18 pays all", x.run(12) + " " + x.found(), "3 0 0");
    });
    Edges.edge("As it begins, it is NARROWED", () -> {
      Wishsolver x = Check.with(7, 7);
      x.order(0, 2, 1, 0);
      Check.same("begin", x.begin(false, 0) + " " + x.step() + " " + x.found(), "2 2 0 2");
    });
    Edges.edge("if there is no ANSWER (0 none, 1 YES, 2 NO, 3 GIVEN UP)", () -> {
      Wishsolver x = Check.with(3);
      x.begin(false, 0);
      Check.same("none", x.search(0), 0);
      x.run(12);
      Check.same("yes", x.search(0) + " " + x.step() + " " + x.search(0), "1 0 1");
      x.often(1, 0, 2, 6, 0);
      x.begin(false, 0);
      x.run(12);
      Check.same("no", x.search(0) + " " + x.step() + " " + x.search(0), "2 0 2");
      Wishsolver y = manyLines();
      y.begin(true, -12);
      finish(y);
      Check.same("no, behind 40 lines", y.search(0), 2);
      Wishsolver z = tooManyLines();
      z.begin(true, -11);
      finish(z);
      Check.same("given up", z.search(0) + " " + z.step() + " " + z.search(0), "3 0 3");
    });
  }

  /** Sums that are dear and a bound below all: the search needs 41 lines, the empty one among them. */
  static Wishsolver manyLines() {
    Wishsolver x = Check.with(63, 7, 15, 22, 7);
    Check.terms(x, 3, 3, -4, 2, 3);
    x.sum(0, 7, 1);
    Check.terms(x, -2, 4, 3, -3, -4);
    x.sum(2, -3, 2);
    Check.terms(x, -4, 4, 3, -2, 4);
    x.sum(2, 0, 4);
    Check.terms(x, -1, -2, 0, -1, -2);
    x.goal();
    return x;
  }

  /** By the bound -11 it would need more than forty lines that have choices. */
  static Wishsolver tooManyLines() {
    Wishsolver x = Check.with(15, 7, 3, 11, 15, 7);
    Check.terms(x, 2, 2, 2, -3, 3, 1);
    x.sum(2, 15, 2);
    Check.terms(x, 0, 1, 2, 0, 3, 1);
    x.sum(1, 6, 1);
    Check.terms(x, -3, -1, -3, 0, 3, -2);
    x.sum(0, -3, 0);
    Check.terms(x, 4, -3, 4, -2, -4, 2);
    x.goal();
    return x;
  }

  /** Three values for four variables that are all unlike, behind two that have nothing to do with them. */
  private static Wishsolver crowd(int others) {
    Wishsolver x = new Wishsolver();
    for (int i = 0; i < others; i++) x.variable(3);
    for (int i = 0; i < 4; i++) x.variable(7);
    for (int i = 0; i < 4; i++) for (int k = i + 1; k < 4; k++) x.unlike((1 << i | 1 << k) << others, 0);
    return x;
  }

  private static void learning() {
    Edges.edge("from the first on, each is left out, if those that are left without it make it FAIL too", () -> {
      Wishsolver x = crowd(2);
      x.begin(false, 0);
      x.run(4);
      Check.same("four choices", x.chosen() + " " + x.search(6), "0=0 1=0 2=0 3=1 1");
      x.step();
      Check.same("the first two are left out", lines(x), "2=0 3=1");
      Wishsolver y = Check.with(3, 3, 3);
      y.often(7, 0, 2, 2, 0);
      y.often(7, 1, 2, 2, 0);
      y.begin(false, 0);
      Check.same("any one alone: the last one is left", y.run(1) + " " + y.chosen() + " " + y.search(6), "1 0=0 1");
      y.step();
      Check.same("of one choice it is left", lines(y), "0=0");
    });
    Edges.edge("made together from the beginning (from TOLD sets, NARROWED by RULES and LINES)", () -> {
      Wishsolver x = crowd(0);
      x.begin(false, 0);
      x.run(3);
      Check.same("the first line is used for the second one", x.step() + " " + lines(x), "1 0=0 1=1, 0=0");
    });
    Edges.edge("What is left (perhaps none) comes as a LINE", () -> {
      Wishsolver x = Check.with(3);
      x.often(1, 0, 2, 6, 0);
      x.begin(false, 0);
      Check.same("none", x.step() + " " + x.search(2) + " " + x.line(0), "1 1 -");
      Wishsolver y = crowd(0);
      y.begin(false, 0);
      finish(y);
      Check.same("some, and none at last", lines(y), "0=0 1=1, 0=0, 0=1 1=0, 0=1, 1=0, -");
    });
    Edges.edge("If it has no CHOICE, the ANSWER is NO", () -> {
      Wishsolver x = Check.with(3);
      x.often(1, 0, 2, 6, 0);
      x.begin(false, 0);
      Check.same("failed at once", state(x), "0 0 0 0 0 0 1");
      Check.same("the answer", x.step() + " " + state(x) + " " + x.right(), "1 2 0 1 0 0 0 1 1");
      Wishsolver y = crowd(0);
      y.begin(false, 0);
      finish(y);
      Check.same("no jump, no weight by the empty line", y.search(4) + " " + (y.search(2) - 1) + " " + weights(y), "5 5 5 4 1 1");
    });
    Edges.edge("if there are 40 LINES ahead of it, it does not come, and the ANSWER is GIVEN UP (and that is all)", () -> {
      Wishsolver x = tooManyLines();
      x.begin(true, -11);
      String before = "";
      int last = 0;
      for (int i = 0; i < 300 && x.search(0) == 0; i++) {
        before = lines(x) + weights(x) + x.chosen() + state(x).substring(1);
        last = x.step();
      }
      Check.same("a step of kind 1", last, 1);
      Check.same("40 lines", x.search(0) + " " + x.search(2) + " " + x.right(), "3 40 40");
      Check.same("nothing else", lines(x) + weights(x) + x.chosen() + state(x).substring(1), before);
      Check.refuses("no line 40", x, Check.INDEX, () -> x.line(40));
      Wishsolver y = manyLines();
      y.begin(true, -12);
      finish(y);
      Check.same("but the empty one comes as the 41st", y.search(0) + " " + y.search(2) + " " + y.line(40) + " " + y.right(), "2 41 - 41");
      Check.refuses("no line 41", y, Check.INDEX, () -> y.line(41));
      Wishsolver z = tooManyLines();
      z.begin(true, -9);
      finish(z);
      Check.same("with forty it may still end well", z.search(0) + " " + z.search(2) + " " + z.search(4) + " " + (z.cost(0) > -9), "1 40 40 true");
    });
    Edges.edge("(it HOLDS, if one of its VARIABLES has another VALUE than it says)", () -> {
      Wishsolver x = Check.with(3, 3, 3);
      x.often(7, 0, 0, 1, 3);
      x.often(7, 1, 0, 1, 3);
      x.begin(true, 2);
      x.run(3);
      Check.same("a line, and what it takes", lines(x) + "; " + x.chosen(), "0=0 1=0; 0=0");
      x.step();
      Check.same("1 has one value by the line: 2 is next", x.chosen(), "0=0 2=0");
    });
    Edges.edge("The WEIGHT of each VARIABLE in it (1 at first) grows by 1", () -> {
      Wishsolver x = crowd(2);
      x.begin(false, 0);
      Check.same("1", weights(x), "1 1 1 1 1 1");
      x.run(4);
      Check.same("not by choices", weights(x), "1 1 1 1 1 1");
      x.step();
      Check.same("by its line", weights(x), "1 1 2 2 1 1");
      x.step();
      Check.same("by the second one", lines(x) + "; " + weights(x), "2=0 3=1, 2=0; 1 1 3 2 1 1");
    });
  }

  private static void jumping() {
    Edges.edge("all CHOICES behind the last but one of that LINE (all, if it has one alone) go", () -> {
      Wishsolver x = crowd(2);
      x.begin(false, 0);
      x.run(5);
      Check.same("one goes", state(x) + "; " + x.chosen(), "0 3 1 4 1 1 1; 0=0 1=0 2=0");
      x.step();
      Check.same("all go", state(x) + "; " + x.chosen(), "0 0 2 4 2 3 0; -");
      Wishsolver y = Check.with(3, 3, 3, 3);
      y.order(0, 1, 3, 1);
      y.order(3, 0, 0, 1);
      y.often(9, 0, 0, 1, 2);
      y.begin(true, 1);
      Check.same("choices between", y.run(4) + " " + y.chosen() + " " + y.search(6), "4 0=0 1=0 2=0 3=0 1");
      y.step();
      Check.same("those between go with it", lines(y) + "; " + y.chosen() + "; " + state(y), "0=0 3=0; 0=0; 0 1 1 4 1 3 0");
    });
    Edges.edge("(as it was NARROWED last there", () -> {
      Wishsolver x = Check.with(3, 3, 3, 3);
      x.order(0, 1, 3, 1);
      x.order(3, 0, 0, 1);
      x.often(9, 0, 0, 1, 2);
      x.begin(true, 1);
      x.run(5);
      Check.same("3 is 1 by the line, so 1 and 2 are left", x.run(3) + " " + x.chosen() + " " + x.found(), "3 0=0 1=0 2=0 0 0 0 1");
    });
    Edges.edge("at the beginning, if none is), and all is NARROWED by RULES and LINES", () -> {
      Wishsolver x = crowd(0);
      x.begin(false, 0);
      x.run(4);
      Check.same("0 without 0, by its line", x.chosen() + " " + x.search(6) + " " + x.step() + " " + x.chosen(), "- 0 3 0=1");
      Wishsolver y = Check.with(3, 3);
      y.term(0, 1);
      y.goal();
      y.often(1, 1, 0, 0, 3);
      y.often(1, 0, 0, 0, 3);
      y.begin(true, 2);
      Check.same("failed by choice, then by lines", y.run(2) + " " + y.search(6) + " " + y.chosen() + " " + lines(y), "2 1 - 0=0");
      Check.same("then it is over", y.step() + " " + state(y) + " " + lines(y), "1 2 0 2 1 1 1 1 0=0, -");
    });
  }

  private static void choosing() {
    Edges.edge("if each RANGE has one VALUE: the ANSWER is YES", () -> {
      Wishsolver x = Check.with(2, 32);
      x.begin(false, 0);
      Check.same("at once", x.step() + " " + state(x) + " " + x.found(), "2 1 0 0 0 0 0 0 1 5");
      Wishsolver y = Check.with(2, 48);
      y.begin(false, 0);
      Check.same("two of one are too many", y.step() + " " + y.step() + " " + y.found(), "3 2 1 4");
      Wishsolver z = new Wishsolver();
      z.begin(false, 0);
      Check.same("without variables", z.step() + " " + z.search(0) + " '" + z.found() + "'", "2 1 ''");
    });
    Edges.edge("of the VARIABLES with more than one VALUE that with the fewest, of these with the greatest WEIGHT", () -> {
      Wishsolver x = Check.with(4, 15, 7, 7);
      x.begin(false, 0);
      Check.same("not one alone; three, not four; the first of these", x.step() + " " + x.chosen(), "3 2=0");
      Wishsolver y = crowd(2);
      y.begin(false, 0);
      y.run(6);
      y.step();
      Check.same("of weight 3, not the first of those with two", weights(y) + "; " + y.chosen(), "1 1 3 2 1 1; 2=1");
    });
    Edges.edge("it has the smallest VALUE of its RANGE alone", () -> {
      Wishsolver x = Check.with(40);
      x.begin(false, 0);
      Check.same("3 of 3 and 5", x.step() + " " + x.chosen() + " " + x.step() + " " + x.found(), "3 0=3 2 3");
      Wishsolver y = Check.with(62);
      y.often(1, 1, 0, 0, 0);
      y.begin(false, 0);
      Check.same("of its range, not of what is told", y.step() + " " + y.chosen(), "3 0=2");
    });
    Edges.edge("alone; all is NARROWED", () -> {
      Wishsolver x = Check.with(7, 7, 7);
      x.unlike(7, 0);
      x.begin(false, 0);
      Check.same("two choices are enough for three", x.run(12) + " " + x.chosen() + " " + x.found(), "3 0=0 1=1 0 1 2");
    });
    Edges.edge("FAIL, NARROWED by RULES and the LINES ahead of it", () -> {
      Wishsolver x = crowd(0);
      x.begin(false, 0);
      Check.same("none", x.right(), 0);
      finish(x);
      Check.same("all six, the empty one too", x.right() + " " + x.search(2), "6 6");
      x.puzzle(3, 3);
      x.begin(true, -1);
      Check.same("failed by its bound, no line yet", x.search(6) + " " + x.right(), "1 0");
      x.step();
      Check.same("right by its bound", lines(x) + " " + x.right(), "- 1");
    });
  }

  // ---- section 4

  private static void mirrors() {
    Edges.in("4");
    Edges.edge("(of n VARIABLES k has the VALUE of n - 1 - k)", () -> {
      Wishsolver x = Check.with(3, 3, 3);
      Check.same("the middle one stays", x.unlikes(1) + " " + x.alike(1, 1) + " " + x.alike(2, 1), "6 2 1");
      Check.same("one variable", Check.with(7).unlikes(1), 3);
      Wishsolver y = Check.with(1, 3, 3, 2);
      Check.same("told sets that do not fit", y.unlikes(1) + " " + y.alike(0, 1), "4 1");
      Wishsolver z = Check.with(3, 1, 1, 1, 1, 3);
      Check.same("six", z.unlikes(1) + " " + z.alike(1, 1), "3 2");
    });
    Edges.edge("TOP is the greatest VALUE in any TOLD set", () -> {
      Wishsolver x = Check.with(15);
      Check.same("3", x.unlikes(2) + " " + x.alike(0, 2) + " " + x.alike(1, 2), "2 2 2");
      x.take(0, 3);
      Check.same("2", x.unlikes(2) + " " + x.alike(0, 2) + " " + x.alike(1, 2), "2 2 1");
      x.choose(0, 2);
      Check.same("2, but there is no 0", x.unlikes(2) + " " + x.alike(0, 2), "1 1");
      x.back();
      x.often(1, 2, 0, 0, 0);
      x.settle();
      Check.same("still 2, as it is told", x.unlikes(2) + " " + x.alike(0, 2) + " " + x.range(0, false), "2 1 3");
      Check.same("0", Check.with(1, 1).alike(0, 2), 1);
      Check.same("5, of the last one", Check.with(33, 33, 32).unlikes(2), 4);
    });
    Edges.edge("turned by none, one or both of these", () -> {
      Wishsolver x = Check.with(7, 7);
      Check.same("none", x.unlikes(0) + " " + x.alike(1, 0), "9 1");
      Check.same("one", x.unlikes(1) + " " + x.alike(1, 1) + " " + x.unlikes(2) + " " + x.alike(1, 2), "6 2 5 2");
      Check.same("both", x.unlikes(3) + " " + x.alike(1, 3) + " " + x.alike(2, 3) + " " + x.alike(4, 3), "4 4 2 1");
      Wishsolver y = Check.with(3, 6);
      Check.same("by both at once, by neither alone", y.alike(0, 1) + " " + y.alike(0, 2) + " " + y.alike(0, 3) + " " + y.unlikes(3), "1 1 2 3");
    });
  }

  private static void cores() {
    Edges.edge("by rising numbers, each is left out, if those that are left without it have none either", () -> {
      Wishsolver x = Check.with(3);
      Check.refuses("without rules", x, Check.STATE, () -> x.core());
      x.often(1, 0, 0, 0, 0);
      x.often(1, 0, 0, 0, 0);
      Check.refuses("a solution is left", x, Check.STATE, () -> x.core());
      x.often(1, 1, 0, 0, 0);
      x.often(1, 1, 0, 0, 0);
      Check.same("the last of each", x.core(), "1 3");
      x.often(1, 2, 1, 1, 0);
      Check.same("one alone", x.core(), "4");
      x.often(1, 0, 2, 2, 7);
      x.often(1, 0, 2, 2, 0);
      Check.same("the last one that is hard", x.core(), "6");
    });
    Edges.edge("a set of HARD RULES that has no SOLUTION, while without any one of it there is one", () -> {
      Wishsolver x = Check.with(3);
      Check.same("no rule", x.tights(0) + " " + x.tights(1), "0 0");
      for (int i = 0; i < 4; i++) x.often(1, i % 2, 0, 0, 0);
      Check.same("two times two", x.tights(0) + " " + x.tights(1) + " " + x.tights(2) + " " + x.tights(3) + " " + x.tights(4), "0 0 4 0 0");
      x.often(1, 5, 1, 1, 9);
      Check.same("no soft one", x.tights(1), 0);
      x.often(1, 5, 1, 1, 0);
      x.often(1, 5, 1, 1, 0);
      Wishsolver u = Check.with(3);
      u.often(1, 5, 1, 1, 1);
      u.often(1, 5, 1, 1, 2);
      Check.same("soft ones alone", u.tights(0) + " " + u.tights(1) + " " + u.tights(2), "0 0 0");
      Check.same("two alone, no more pairs by them", x.tights(1) + " " + x.tights(2) + " " + x.tights(3), "2 4 0");
      Wishsolver y = Check.with(15);
      for (int i = 0; i < 4; i++) y.often(1, i, 0, 0, 0);
      Check.same("just four", y.tights(3) + " " + y.tights(4), "0 1");
      Wishsolver z = Check.with(31);
      for (int i = 0; i < 5; i++) z.often(1, i, 0, 0, 0);
      Check.same("five are more than it counts", z.tights(4) + " " + z.core(), "0 0 1 2 3 4");
    });
  }

  private static void puzzles() {
    Edges.edge("PUZZLES with n of 2 to 5: n VARIABLES with the TOLD set of 0 to n - 1, and HARD RULES: 0 queens: UNLIKE and SLOPE of all", () -> {
      Wishsolver x = new Wishsolver();
      String ways = "";
      for (int n = 2; n <= 5; n++) {
        x.puzzle(0, n);
        ways += x.solutions() + " ";
        Check.same("told", x.house(0) + " " + x.range(0, true) + " " + x.range(n - 1, true), n + " " + ((1 << n) - 1) + " " + ((1 << n) - 1));
        Check.same("rules", x.ofRule(0, 0) + " " + x.ofRule(0, 1) + " " + x.ofRule(1, 0) + " " + x.ofRule(1, 1), "6 " + ((1 << n) - 1) + " 10 " + ((1 << n) - 1));
      }
      Check.same("ways", ways, "0 0 2 10 ");
    });
    Edges.edge("1 a ring: RING of all", () -> {
      Wishsolver x = new Wishsolver();
      String ways = "";
      for (int n = 2; n <= 5; n++) {
        Check.same("rules", x.puzzle(1, n), 1);
        ways += x.solutions() + " " + x.ofRule(0, 0) + " " + x.ofRule(0, 1) + " " + x.ofRule(0, 2) + "; ";
      }
      Check.same("ways", ways, "1 8 3 0; 2 8 7 0; 6 8 15 0; 24 8 31 0; ");
    });
    Edges.edge("2 colours around (n of 3 to 5): for each VARIABLE UNLIKE of it and the next one (of the last one with the first one)", () -> {
      Wishsolver x = new Wishsolver();
      String ways = "";
      for (int n = 3; n <= 5; n++) {
        Check.same("rules", x.puzzle(2, n), n);
        ways += x.solutions() + ":";
        for (int i = 0; i < n; i++) ways += " " + x.ofRule(i, 0) + "/" + x.ofRule(i, 1);
        ways += "; ";
      }
      Check.same("ways", ways, "6: 6/3 6/6 6/5; 84: 6/3 6/6 6/12 6/9; 1020: 6/3 6/6 6/12 6/24 6/17; ");
      Check.refuses("2", x, Check.ARGUMENT, () -> x.puzzle(2, 2));
      Check.refuses("6", x, Check.ARGUMENT, () -> x.puzzle(2, 6));
    });
    Edges.edge("the first one and the last one together are just n - 1", () -> {
      Wishsolver x = new Wishsolver();
      String ways = "";
      for (int n = 2; n <= 5; n++) {
        Check.same("rules", x.puzzle(3, n), 2);
        ways += x.solutions() + ": " + x.ofRule(0, 0) + "/" + x.ofRule(0, 1) + " " + x.ofRule(1, 0) + "/" + x.ofRule(1, 1) + "; ";
      }
      Check.same("ways", ways, "2: 6/3 0/3; 2: 6/7 0/5; 8: 6/15 0/9; 24: 6/31 0/17; ");
    });
    Edges.edge("who draws is REFUSED (counted)", () -> {
      Wishsolver x = new Wishsolver();
      for (int i = 1; i <= 20; i++) Check.same("drawn", x.draw() + " " + x.house(11), i + " " + i);
    });
  }
}
