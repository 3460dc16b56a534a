/** Promises 25 to 28 and 40 to 45: the search. */
public final class SearchTest {
  public static void main(String[] args) {
    promise25();
    promise26();
    promise26Jumps();
    promise26Choices();
    promise27();
    promise28();
    promise40();
    promise40Edges();
    promise41();
    promise42();
    promise43();
    promise44();
    promise45();
    Check.end("SearchTest");
  }

  private static String state(Wishsolver x) {
    StringBuilder all = new StringBuilder();
    for (int i = 0; i <= 6; i++) all.append(i == 0 ? "" : " ").append(x.search(i));
    return all.toString();
  }

  private static String lines(Wishsolver x) {
    StringBuilder all = new StringBuilder();
    for (int i = 0; i < x.search(2); i++) all.append(i == 0 ? "" : ", ").append(x.line(i));
    return all.toString();
  }

  private static String weights(Wishsolver x) {
    StringBuilder all = new StringBuilder();
    for (int i = 0; i < x.house(0); i++) all.append(i == 0 ? "" : " ").append(x.weight(i));
    return all.toString();
  }

  private static void finish(Wishsolver x) {
    for (int i = 0; i < 30; i++) x.run(12);
  }

  /** Three parted colours for four that all touch: only choices show that there are too few. */
  private static Wishsolver touching() {
    Wishsolver x = Check.with(7, 7, 7, 7);
    for (int i = 0; i < 4; i++) for (int k = i + 1; k < 4; k++) x.unlike(1 << i | 1 << k, 0);
    return x;
  }

  private static void promise25() {
    Wishsolver x = Check.with(7, 7, 7);
    x.order(0, 1, 1, 0);
    x.settle();
    x.take(2, 1);
    Check.refuses("25 bound", x, Check.ARGUMENT, () -> x.begin(true, 1001));
    Check.refuses("25 bound below", x, Check.ARGUMENT, () -> x.begin(true, -1001));
    Check.refuses("25 also without", x, Check.ARGUMENT, () -> x.begin(false, 1001));
    Check.refuses("25 also without, below", x, Check.ARGUMENT, () -> x.begin(false, -1001));
    Check.same("25 values", x.begin(true, 1000) + " " + state(x), "6 0 0 0 0 0 0 0");
    Check.same("25 edge", x.begin(true, -1000) + " " + state(x), "0 0 0 0 0 0 0 1");
    Check.same("25 no bound", x.begin(false, -1000) + " " + state(x), "6 0 0 0 0 0 0 0");
    x.run(3);
    x.order(1, 1, 0, 0);
    Check.same("25 it keeps its rules", x.step() + " " + state(x), "2 1 3 0 3 0 0 0");
    Check.same("25 another one", x.begin(false, 0) + " " + state(x), "0 0 0 0 0 0 0 1");
    Check.same("25 the house is untouched", Check.ranges(x, 0) + " " + Check.ranges(x, 2), "7/3 5/5");
    x.settle();
    x.drop(1);
    Check.same("25 of what is told, not of ranges", x.begin(false, 0), 6);
    x.choose(0, 1);
    Check.same("25 of the level", x.begin(false, 0), 1 + 1 + 2);
  }

  private static void promise26() {
    Wishsolver x = touching();
    Check.same("26 without a search", x.step(), 0);
    Check.same("26 begin", x.begin(false, 0), 12);
    Check.same("26 a choice", x.step() + " " + state(x) + " " + x.chosen(), "3 0 1 0 1 0 0 0 0=0");
    Check.same("26 it fails", x.step() + " " + state(x) + " " + x.chosen(), "3 0 2 0 2 0 0 1 0=0 1=1");
    Check.same("26 learns and jumps", x.step() + " " + state(x) + " " + lines(x), "1 0 1 1 2 1 1 1 0=0 1=1");
    Check.same("26 weights", weights(x) + " " + x.chosen(), "2 2 1 1 0=0");
    Check.same("26 learns again", x.step() + " " + state(x) + " " + lines(x), "1 0 0 2 2 2 1 0 0=0 1=1, 0=0");
    Check.same("26 the fewest", x.step() + " " + x.chosen(), "3 0=1");
    x.take(1, 0);
    Check.same("26 the house is another thing", x.step() + " " + x.chosen(), "3 0=1 1=0");
    finish(x);
    Check.same("26 no", x.search(0) + " " + x.step() + " " + lines(x), "2 0 0=0 1=1, 0=0, 0=1 1=0, 0=1, 1=0, -");
    Check.same("26 weights at the end", weights(x), "5 4 1 1");
    Wishsolver y = Check.with(1, 2);
    y.begin(false, 0);
    Check.same("26 found", y.step() + " " + state(y) + " " + y.step(), "2 1 0 0 0 0 0 0 0");
    Wishsolver z = new Wishsolver();
    z.begin(true, 0);
    Check.same("26 nothing to choose", z.step() + " " + z.found(), "2 ");
    z.begin(true, -1);
    Check.same("26 without variables too dear", z.search(6) + " " + z.step() + " " + state(z) + " " + lines(z) + " " + z.right(), "1 1 2 0 1 0 0 0 1 - 1");
  }

  private static void promise26Jumps() {
    Wishsolver x = Check.with(3, 3, 7, 7, 7, 7);
    for (int i = 2; i < 6; i++) for (int k = i + 1; k < 6; k++) x.unlike(1 << i | 1 << k, 0);
    x.begin(false, 0);
    Check.same("26 two that are of no use", x.run(4) + " " + x.chosen() + " " + x.search(6), "4 0=0 1=0 2=0 3=1 1");
    Check.same("26 they are left out", x.step() + " " + state(x) + " " + lines(x), "1 0 3 1 4 1 1 1 2=0 3=1");
    Check.same("26 a far jump", x.step() + " " + state(x) + " " + lines(x), "1 0 0 2 4 2 3 0 2=0 3=1, 2=0");
    Check.same("26 the weight tells now", x.step() + " " + x.chosen() + " " + weights(x), "3 2=1 1 1 3 2 1 1");
    Wishsolver y = Check.with(3, 3, 3);
    y.often(7, 0, 0, 1, 3);
    y.often(7, 1, 0, 1, 3);
    y.begin(true, 2);
    Check.same("26 the price of a soft rule", y.run(2) + " " + y.chosen() + " " + y.search(6), "2 0=0 1=0 1");
    Check.same("26 left from the first on", y.step() + " " + lines(y) + " " + state(y), "1 0=0 1=0 0 1 1 2 1 1 0");
    Check.same("26 a line narrows", y.step() + " " + y.chosen() + " " + y.search(6), "3 0=0 2=0 1");
  }

  private static void promise26Choices() {
    Wishsolver x = Check.with(63, 56, 12, 6);
    x.begin(false, 0);
    x.run(12);
    Check.same("26 few first, of these the first", x.chosen() + "; " + x.found(), "2=2 3=1 1=3 0=0; 0 3 2 1");
    x.term(0, -1);
    x.goal();
    x.unlike(12, 4);
    x.often(12, 2, 1, 1, 0);
    x.order(3, 1, 2, 2);
    x.begin(true, -4);
    Check.same("26 the least", x.search(6), 0);
    x.begin(true, -6);
    Check.same("26 below the least", x.search(6), 1);
    Wishsolver y = Check.with(12, 3);
    y.order(0, 0, 1, 5);
    y.begin(true, 4);
    Check.same("26 a soft rule without a row", y.search(6), 1);
    Check.same("26 at its price", y.begin(true, 5), 4);
    y.drop(0);
    Check.terms(y, 2, -3);
    y.goal();
    Check.same("26 4 less 3", y.begin(true, 1) + " " + y.begin(true, 0), "4 0");
    y.begin(true, 1);
    Check.same("26 a choice too dear", y.step() + " " + y.step() + " " + y.chosen() + " " + y.search(6), "3 3 0=2 1=0 1");
    Check.same("26 its line", y.step() + " " + y.line(0) + " " + state(y), "1 1=0 0 0 1 2 1 2 0");
    finish(y);
    Check.same("26 what is left", y.found() + "; " + y.chosen(), "2 1; 0=2");
  }

  private static void promise27() {
    Wishsolver x = touching();
    Check.refuses("27 0", x, Check.ARGUMENT, () -> x.run(0));
    Check.refuses("27 13", x, Check.ARGUMENT, () -> x.run(13));
    Check.refuses("27 -1", x, Check.ARGUMENT, () -> x.run(-1));
    Check.same("27 without a search", x.run(12), 0);
    x.begin(false, 0);
    Check.refuses("27 0 in a search", x, Check.ARGUMENT, () -> x.run(0));
    Check.same("27 two", x.run(2) + " " + x.search(3), "2 2");
    Wishsolver y = touching();
    y.begin(false, 0);
    for (int i = 0; i < 5; i++) y.step();
    x.run(3);
    Check.same("27 as steps", state(x) + lines(x), state(y) + lines(y));
    int more = x.run(12);
    Check.same("27 till the answer", more < 12 && x.search(0) == 2, true);
    Check.same("27 no more", x.run(1), 0);
  }

  private static void promise28() {
    Wishsolver x = new Wishsolver();
    Check.same("28 first", x.draw(), 1);
    Check.same("28 second", x.draw(), 2);
    x.puzzle(0, 4);
    Check.same("28 ever", x.draw() + " " + x.house(11), "3 3");
  }

  private static void promise40() {
    Wishsolver x = touching();
    for (int i = 0; i <= 6; i++) Check.same("40 without a search", x.search(i), 0);
    Check.refuses("40 below", x, Check.ARGUMENT, () -> x.search(-1));
    Check.refuses("40 above", x, Check.ARGUMENT, () -> x.search(7));
    x.begin(false, 0);
    finish(x);
    Check.same("40 the end", state(x), "2 0 6 5 5 1 1");
    String proof = lines(x);
    x.begin(false, 0);
    Check.same("40 all new", state(x) + " " + weights(x), "0 0 0 0 0 0 0 1 1 1 1");
    finish(x);
    Check.same("40 the same again", state(x) + " " + lines(x), "2 0 6 5 5 1 1 " + proof);
    Wishsolver y = Check.with(3, 3, 3, 3, 3, 3);
    y.begin(false, 0);
    Check.same("40 six choices", y.run(12) + " " + state(y) + " " + y.chosen() + " " + y.found(), "7 1 6 0 6 0 0 0 0=0 1=0 2=0 3=0 4=0 5=0 0 0 0 0 0 0");
  }

  /** Sums that are dear and a bound below all: the search needs 41 lines, the empty one among them. */
  private static Wishsolver manyLines() {
    Wishsolver x = Check.with(63, 7, 15, 22, 7);
    Check.terms(x, 3, 3, -4, 2, 3);
    x.sum(0, 7, 1);
    Check.terms(x, -2, 4, 3, -3, -4);
    x.sum(2, -3, 2);
    Check.terms(x, -4, 4, 3, -2, 4);
    x.sum(2, 0, 4);
    Check.terms(x, -1, -2, 0, -1, -2);
    x.goal();
    x.begin(true, -12);
    return x;
  }

  private static Wishsolver tooManyLines() {
    Wishsolver x = Check.with(15, 7, 3, 11, 15, 7);
    Check.terms(x, 2, 2, 2, -3, 3, 1);
    x.sum(2, 15, 2);
    Check.terms(x, 0, 1, 2, 0, 3, 1);
    x.sum(1, 6, 1);
    Check.terms(x, -3, -1, -3, 0, 3, -2);
    x.sum(0, -3, 0);
    Check.terms(x, 4, -3, 4, -2, -4, 2);
    x.goal();
    x.begin(true, -11);
    return x;
  }

  private static void promise40Edges() {
    Wishsolver x = manyLines();
    finish(x);
    Check.same("40 the 41st line is the empty one", x.search(0) + " " + x.search(2) + " " + x.search(4) + " " + x.line(40), "2 41 40 -");
    Check.same("40 all are right", x.right() + " " + x.isSound(), "41 true");
    Wishsolver y = tooManyLines();
    int steps = 0;
    String before = "";
    for (int i = 0; i < 300 && y.search(0) == 0; i++) {
      before = weights(y) + "; " + y.chosen() + "; " + state(y).substring(2);
      steps = y.step();
    }
    Check.same("40 given up", y.search(0) + " " + y.search(2) + " " + y.search(4) + " " + y.search(6) + " " + steps, "3 40 40 1 1");
    Check.same("40 and that is all", weights(y) + "; " + y.chosen() + "; " + state(y).substring(2), before);
    Check.same("40 it rests", y.step() + " " + y.run(12) + " " + y.right(), "0 0 40");
    Check.refuses("40 nothing found", y, Check.NO_ELEMENT, () -> y.found());
  }

  private static void promise41() {
    Wishsolver x = Check.with(7, 12, 7);
    Check.same("41 without a search", x.chosen(), "-");
    x.begin(false, 0);
    Check.same("41 none", x.chosen(), "-");
    x.step();
    Check.same("41 one", x.chosen(), "1=2");
    x.run(2);
    Check.same("41 as made", x.chosen(), "1=2 0=0 2=0");
    x.puzzle(0, 2);
    Check.same("41 gone", x.chosen(), "-");
  }

  private static void promise42() {
    Wishsolver x = touching();
    Check.refuses("42 without a search", x, Check.INDEX, () -> x.line(0));
    x.begin(false, 0);
    Check.refuses("42 none", x, Check.INDEX, () -> x.line(0));
    x.run(3);
    Check.same("42 first", x.line(0), "0=0 1=1");
    Check.refuses("42 below", x, Check.INDEX, () -> x.line(-1));
    Check.refuses("42 behind", x, Check.INDEX, () -> x.line(1));
    Wishsolver y = tooManyLines();
    y.run(12);
    y.run(12);
    Check.same("42 more of them", lines(y), modelLines());
    y.begin(false, 0);
    Check.refuses("42 gone", y, Check.INDEX, () -> y.line(0));
  }

  private static String modelLines() {
    Model m = new Model();
    int[] sets = {15, 7, 3, 11, 15, 7};
    int[][] sums = {{2, 2, 2, -3, 3, 1}, {0, 1, 2, 0, 3, 1}, {-3, -1, -3, 0, 3, -2}, {4, -3, 4, -2, -4, 2}};
    int[][] told = {{2, 15, 2}, {1, 6, 1}, {0, -3, 0}};
    for (int set : sets) m.variable(set);
    for (int i = 0; i < 4; i++) {
      for (int k = 0; k < 6; k++) if (sums[i][k] != 0) m.term(k, sums[i][k]);
      if (i < 3) m.sum(told[i][0], told[i][1], told[i][2]);
    }
    m.goal();
    m.begin(true, -11);
    m.run(12);
    m.run(12);
    StringBuilder all = new StringBuilder();
    for (int i = 0; i < m.search(2); i++) all.append(i == 0 ? "" : ", ").append(m.line(i));
    return all.toString();
  }

  private static void promise43() {
    Wishsolver x = touching();
    Check.same("43 without a search", weights(x), "1 1 1 1");
    Check.refuses("43 below", x, Check.INDEX, () -> x.weight(-1));
    Check.refuses("43 none", x, Check.INDEX, () -> x.weight(4));
    x.begin(false, 0);
    x.run(3);
    Check.same("43 grown", weights(x), "2 2 1 1");
    x.variable(3);
    Check.same("43 not known", x.weight(4), 1);
    x.begin(false, 0);
    Check.same("43 new", weights(x), "1 1 1 1 1");
    finish(x);
    x.puzzle(0, 3);
    Check.same("43 gone", weights(x), "1 1 1");
  }

  private static void promise44() {
    Wishsolver x = touching();
    Check.same("44 without a search", x.right(), 0);
    x.begin(false, 0);
    Check.same("44 no line", x.right(), 0);
    for (int i = 0; i < 12; i++) {
      x.step();
      Check.same("44 all of them", x.right(), x.search(2));
    }
    x.puzzle(0, 3);
    Check.same("44 gone", x.right(), 0);
  }

  private static void promise45() {
    Wishsolver x = Check.with(14, 14, 14);
    Check.refuses("45 without a search", x, Check.NO_ELEMENT, () -> x.found());
    x.unlike(7, 0);
    x.order(1, 1, 0, 0);
    x.begin(false, 0);
    Check.refuses("45 no answer", x, Check.NO_ELEMENT, () -> x.found());
    finish(x);
    Check.same("45 found", x.found(), "2 1 3");
    x.drop(0);
    x.variable(63);
    x.take(0, 2);
    Check.same("45 it stays", x.found(), "2 1 3");
    Wishsolver y = touching();
    y.begin(false, 0);
    finish(y);
    Check.refuses("45 no", y, Check.NO_ELEMENT, () -> y.found());
  }
}
