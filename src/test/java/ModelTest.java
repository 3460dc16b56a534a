import java.lang.reflect.InvocationTargetException;
import java.lang.reflect.Method;
import java.util.ArrayList;
import java.util.List;
import java.util.Random;

/** Runs of calls drawn by fixed seeds: Wishsolver and Model must answer each of them alike. */
public final class ModelTest {
  private final Random random;
  private final Wishsolver solver = new Wishsolver();
  private final Model model = new Model();
  private final List<String> calls = new ArrayList<>();
  private final long seed;
  private final int widest;
  /** Of twelve rules so many are dear ones: the more of them, the more solutions are left. */
  private final int soft;

  private ModelTest(long seed) {
    this.seed = seed;
    random = new Random(seed);
    widest = seed % 16 == 0 ? 1300 : 130;
    soft = upTo(13);
  }

  public static void main(String[] args) throws Exception {
    int runs = args.length > 0 ? Integer.parseInt(args[0]) : 600;
    int first = args.length > 1 ? Integer.parseInt(args[1]) : 0;
    int[] seen = new int[4];
    for (int seed = first; seed < first + runs; seed++) new ModelTest(seed).play(seen);
    for (int seed = 0; seed < 3; seed++) new ModelTest(seed).hard(seen, seed);
    for (int seed = first; seed < first + runs; seed++) new ModelTest(seed).close(seen);
    System.out.println("ModelTest: " + runs + " runs, as many searches; answers yes " + seen[1] + ", no " + seen[2] + ", given up " + seen[3]);
  }

  private void play(int[] seen) throws Exception {
    if (random.nextInt(8) == 0) call("puzzle", upTo(4), 2 + upTo(4));
    int start = 1 + upTo(6);
    for (int i = 0; i < start; i++) variable();
    int length = 30 + upTo(90);
    for (int i = 0; i < length; i++) {
      any();
      if (i % 25 == 24) call("digest");
    }
    call("begin", random.nextBoolean(), upTo(21) - 8);
    for (int i = 0; i < 12 && model.search(0) == 0; i++) call("run", 12);
    for (int i = 0; i < model.search(2); i++) call("line", i);
    call("search", 0);
    seen[model.search(0)]++;
    call("isSound");
    call("digest");
  }

  /** A search among few values and many rules, step by step. */
  private void close(int[] seen) throws Exception {
    random.setSeed(seed);
    int n = 4 + upTo(3);
    int product = 1;
    for (int i = 0; i < n; i++) {
      int set = new int[] {3, 7, 7, 15, 15, 31}[upTo(6)];
      if (product * Integer.bitCount(set) > 1200) set = 3;
      product *= Integer.bitCount(set);
      call("variable", set);
    }
    int rules = 3 + upTo(9);
    for (int i = 0; i < rules; i++) closeRule(n);
    boolean isBounded = random.nextBoolean();
    int bound = 0;
    if (isBounded) {
      for (int i = 0; i < n; i++) call("term", i, upTo(5) - 2);
      call("goal");
      bound = upTo(14) - 8;
    }
    call("begin", isBounded, bound);
    for (int i = 0; i < 200 && model.search(0) == 0; i++) {
      call("step");
      call("chosen");
    }
    for (int i = 0; i < model.search(2); i++) call("line", i);
    for (int i = 0; i < 7; i++) call("search", i);
    for (int i = 0; i < n; i++) call("weight", i);
    call("found");
    call("right");
    seen[model.search(0)]++;
  }

  private void closeRule(int n) throws Exception {
    int price = upTo(6) == 0 ? 1 + upTo(5) : 0;
    int u = upTo(n);
    int v = upTo(n);
    int w = upTo(n);
    switch (upTo(5)) {
      case 0:
        call("unlike", 1 << u | 1 << v | 1 << w, price);
        break;
      case 1:
        upTo(5);
        if (u == v || v == w || u == w) break;
        int rows = 4 + upTo(9);
        for (int i = 0; i < rows; i++) call("row", upTo(4), upTo(4), upTo(4));
        call("table", u, v, w, price);
        break;
      case 2:
        if (u != v) call("order", u, upTo(5) - 3, v, price);
        break;
      case 3:
        int value = upTo(3);
        int least = upTo(2);
        int most = least + upTo(2);
        call("often", 1 + upTo((1 << n) - 1), value, least, most, price);
        break;
      default:
        for (int i = 0; i < n; i++) {
          int weight = upTo(5) - 2;
          if (weight != 0) call("term", i, weight);
        }
        call("sum", upTo(3), upTo(9) - 3, price);
        break;
    }
  }

  /** Searches that need many lines: one with forty and the empty one, one that is given up, one between. */
  private void hard(int[] seen, int which) throws Exception {
    int[][] sets = {{63, 7, 15, 22, 7}, {15, 7, 3, 11, 15, 7}, {15, 7, 3, 11, 15, 7}};
    int[][][] weights = {
      {{3, 3, -4, 2, 3}, {-2, 4, 3, -3, -4}, {-4, 4, 3, -2, 4}, {-1, -2, 0, -1, -2}},
      {{2, 2, 2, -3, 3, 1}, {0, 1, 2, 0, 3, 1}, {-3, -1, -3, 0, 3, -2}, {4, -3, 4, -2, -4, 2}},
      {{2, 2, 2, -3, 3, 1}, {0, 1, 2, 0, 3, 1}, {-3, -1, -3, 0, 3, -2}, {4, -3, 4, -2, -4, 2}}};
    int[][][] told = {{{0, 7, 1}, {2, -3, 2}, {2, 0, 4}}, {{2, 15, 2}, {1, 6, 1}, {0, -3, 0}}, {{2, 15, 2}, {1, 6, 1}, {0, -3, 0}}};
    int[] bounds = {-12, -11, -9};
    for (int set : sets[which]) call("variable", set);
    for (int i = 0; i < 4; i++) {
      for (int k = 0; k < sets[which].length; k++) call("term", k, weights[which][i][k]);
      if (i < 3) call("sum", told[which][i][0], told[which][i][1], told[which][i][2]);
    }
    call("goal");
    call("begin", true, bounds[which]);
    for (int i = 0; i < 120 && model.search(0) == 0; i++) {
      call("step");
      call("chosen");
      call("search", 5);
    }
    for (int i = 0; i < 42; i++) call("line", i);
    for (int i = 0; i < 6; i++) call("weight", i);
    for (int i = 0; i < 7; i++) call("search", i);
    call("found");
    seen[model.search(0)]++;
    call("digest");
  }

  private int upTo(int n) {
    return random.nextInt(n);
  }

  /** A number of a variable, mostly one that is there. */
  private int v() {
    int n = model.house(0);
    return n == 0 || upTo(25) == 0 ? upTo(9) - 2 : upTo(n);
  }

  private int price() {
    return upTo(40) == 0 ? upTo(14) - 2 : upTo(12) < soft ? 1 + upTo(9) : 0;
  }

  private int set() {
    int n = model.house(0);
    return upTo(25) == 0 ? upTo(80) - 8 : upTo(1 << n);
  }

  private int small(int most) {
    return upTo(30) == 0 ? upTo(most + 5) - 2 : upTo(most + 1);
  }

  private void variable() throws Exception {
    int set = upTo(20) == 0 ? upTo(80) - 8 : 1 + upTo(63);
    long product = Integer.bitCount(set & 63);
    for (int i = 0; i < model.house(0); i++) product *= Integer.bitCount(model.range(i, true));
    if (product > widest) set = 1 + upTo(4);
    call("variable", set);
  }

  private void any() throws Exception {
    switch (upTo(44)) {
      case 0: variable(); break;
      case 1: call("take", v(), small(5)); break;
      case 2: case 3: terms(); call("sum", small(2), upTo(50) == 0 ? upTo(230) - 115 : upTo(21) - 6, price()); break;
      case 4: call("term", v(), small(8) - 4); break;
      case 5: call("row", small(5), small(5), small(5)); break;
      case 6: if (upTo(4) == 0) call("wipe"); break;
      case 7: call("product", v(), v(), v(), price()); break;
      case 8: call("distance", v(), v(), v(), price()); break;
      case 9: rows(); call("element", v(), v(), price()); break;
      case 10: rows(); call("table", v(), v(), v(), price()); break;
      case 11: case 12: call("order", v(), small(10) - 5, v(), price()); break;
      case 13: case 14: call("unlike", set(), price()); break;
      case 15: int least = small(2); call("often", set(), small(5), least, least + small(3) - (upTo(20) == 0 ? 1 : 0), price()); break;
      case 16: call("ring", set(), random.nextBoolean(), price()); break;
      case 17: call("slope", set(), price()); break;
      case 18: if (model.house(1) > 0) call("drop", upTo(model.house(1) + 1) - upTo(2)); break;
      case 19: if (upTo(2) == 0) terms(); call("goal"); break;
      case 20: if (upTo(12) == 0) call("puzzle", small(3), 1 + upTo(6)); break;
      case 21: call("suppose"); break;
      case 22: int one = v(); call("choose", one, small(5)); break;
      case 23: call("back"); break;
      case 24: case 25: case 26: call("look"); call("waiting"); break;
      case 27: call("settle"); break;
      case 28: call("begin", random.nextBoolean(), upTo(30) == 0 ? upTo(2600) - 1300 : upTo(24) - 8); break;
      case 29: case 30: call("step"); for (int i = 0; i < 7; i++) call("search", i); call("chosen"); break;
      case 31: call("run", small(12)); break;
      case 32: call("draw"); break;
      case 33: call("range", v(), random.nextBoolean()); break;
      case 34: call("ofRule", small(Math.max(0, model.house(1) - 1)), small(6)); break;
      case 35: call("waiting"); call("solutions"); break;
      case 36: call("solution", small(4)); call("cost", small(4)); break;
      case 37: call("unlikes", small(3)); break;
      case 38: call("alike", small(4), small(3)); break;
      case 39: call("best", random.nextBoolean()); call("core"); break;
      case 40: call("tights", small(3)); break;
      case 41: call("search", small(6)); call("line", small(3)); break;
      case 42: call("weight", v()); call("right"); call("found"); break;
      default: call("house", small(11)); call("isSound"); break;
    }
  }

  private void terms() throws Exception {
    int n = 1 + upTo(4);
    for (int i = 0; i < n; i++) call("term", v(), small(8) - 4);
  }

  private void rows() throws Exception {
    int n = upTo(7);
    for (int i = 0; i < n; i++) call("row", small(5), small(5), small(5));
  }

  private void call(String name, Object... args) throws Exception {
    calls.add(name + List.of(args));
    Class<?>[] types = new Class<?>[args.length];
    for (int i = 0; i < args.length; i++) types[i] = args[i] instanceof Integer ? int.class : boolean.class;
    Object got = answer(solver, Wishsolver.class.getMethod(name, types), args);
    Object due = answer(model, Model.class.getMethod(name, types), args);
    if (!due.equals(got)) {
      System.out.println(String.join("\n", calls));
      System.out.println("answered " + got + ", due is " + due);
      System.exit(1);
    }
  }

  private static Object answer(Object target, Method method, Object[] args) throws Exception {
    try {
      return method.invoke(target, args);
    } catch (InvocationTargetException e) {
      return e.getCause().getClass().getName();
    }
  }
}
