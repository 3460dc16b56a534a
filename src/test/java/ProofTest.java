import java.util.Random;

/** Bounded searches below or near the least cost, drawn by fixed seeds, step by step against Model: proofs of many lines. */
public final class ProofTest {
  private static final int[] SETS = {7, 11, 15, 22, 31, 3, 63, 27};

  private final Wishsolver x = new Wishsolver();
  private final Model model = new Model();
  private final Random random;

  private ProofTest(long seed) {
    random = new Random(seed);
  }

  public static void main(String[] args) {
    int runs = args.length > 0 ? Integer.parseInt(args[0]) : 30;
    int first = args.length > 1 ? Integer.parseInt(args[1]) : 6000000;
    int most = 0;
    for (int seed = first; seed < first + runs; seed++) {
      Check.say("seed " + seed + ": ");
      ProofTest test = new ProofTest(seed);
      test.tell();
      most = Math.max(most, test.prove());
    }
    Check.end("ProofTest (" + most + " lines at most)");
  }

  private void tell() {
    int count = 5 + random.nextInt(2);
    int product = 1;
    for (int i = 0; i < count; i++) {
      int set = SETS[random.nextInt(SETS.length)];
      if (product * Integer.bitCount(set) > 1500) set = 3;
      product *= Integer.bitCount(set);
      x.variable(set);
      model.variable(set);
    }
    int rules = 2 + random.nextInt(5);
    for (int i = 0; i < rules; i++) {
      terms(count);
      int relation = random.nextInt(3);
      int bound = random.nextInt(24) - 8;
      int price = random.nextInt(3) > 0 ? 1 + random.nextInt(5) : relation == 2 ? 2 : 0;
      x.sum(relation, bound, price);
      model.sum(relation, bound, price);
    }
    terms(count);
    x.goal();
    model.goal();
  }

  private void terms(int count) {
    for (int i = 0; i < count; i++) {
      int weight = random.nextInt(9) - 4;
      x.term(i, weight);
      model.term(i, weight);
    }
  }

  /** Returns how many lines the proof has. */
  private int prove() {
    int least = x.solutions() == 0 ? 0 : x.best(false);
    int bound = least - 2 + random.nextInt(3);
    Check.same("begin", x.begin(true, bound), model.begin(true, bound));
    for (int i = 0; i < 300 && model.search(0) == 0; i++) {
      Check.same("step", x.step(), model.step());
      Check.same("chosen", x.chosen(), model.chosen());
      for (int what = 0; what <= 6; what++) Check.same("search " + what, x.search(what), model.search(what));
    }
    int lines = model.search(2);
    for (int i = 0; i < lines; i++) Check.same("line " + i, x.line(i), model.line(i));
    for (int i = 0; i < model.house(0); i++) Check.same("weight " + i, x.weight(i), model.weight(i));
    Check.same("right", x.right(), model.right());
    Check.same("all lines are right", x.right(), lines);
    if (model.search(0) == 1) Check.same("found", x.found(), model.found());
    Check.same("digest", x.digest(), model.digest());
    return lines;
  }
}
