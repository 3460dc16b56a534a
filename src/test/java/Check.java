import java.math.BigInteger;
import java.util.ArrayList;
import java.util.List;

/** What the tests of the promises use: answers that are due, and refusals that change nothing. */
final class Check {
  static final Class<?> INDEX = IndexOutOfBoundsException.class;
  static final Class<?> ARGUMENT = IllegalArgumentException.class;
  static final Class<?> STATE = IllegalStateException.class;
  static final Class<?> NO_ELEMENT = java.util.NoSuchElementException.class;

  interface Call {
    Object answer();
  }

  interface CallWith {
    Object answer(int number);
  }

  /** Numbers far off, among them those that a shift or a sum would wrap to small ones. */
  private static final int[] FAR = {Integer.MIN_VALUE, Integer.MIN_VALUE + 1, -65536, -2000, -64, -33, -32, 1 << 16, 1 << 20, 1 << 30,
    Integer.MAX_VALUE - 1, Integer.MAX_VALUE};

  private static int wrong;
  /** The words of the document that are tested now. */
  private static String words = "";

  private Check() {}

  static void say(String newWords) {
    words = newWords;
  }

  static void same(String what, Object got, Object due) {
    if (!due.equals(got)) {
      wrong++;
      System.out.println(words + what + " answered " + got + ", due is " + due);
    }
  }

  /** All these numbers are refused, and those that are far off. */
  static void refusesEach(String what, Wishsolver x, Class<?> due, CallWith call, int... numbers) {
    refusesThese(what, x, due, call, numbers);
    refusesThese(what, x, due, call, FAR);
  }

  static void refusesThese(String what, Wishsolver x, Class<?> due, CallWith call, int... numbers) {
    for (int number : numbers) refuses(what + " " + number, x, due, () -> call.answer(number));
  }

  /** The call throws just that exception, and all that can be asked is as before. */
  static void refuses(String what, Wishsolver x, Class<?> due, Call call) {
    String before = picture(x);
    Object got = "nothing";
    try {
      call.answer();
    } catch (RuntimeException e) {
      got = e.getClass();
    }
    same(what + " throws", got, due);
    same(what + " changes nothing", picture(x), before);
  }

  static String picture(Wishsolver x) {
    StringBuilder all = new StringBuilder();
    all.append(x.digest()).append(';').append(x.waiting()).append(';').append(x.chosen());
    for (int i = 0; i < x.house(0); i++) all.append(';').append(ranges(x, i)).append(',').append(x.weight(i));
    for (int i = 0; i < x.house(1); i++) all.append(';').append(rule(x, i));
    for (int i = 0; i <= 11; i++) all.append(';').append(x.house(i));
    for (int i = 0; i <= 6; i++) all.append(';').append(x.search(i));
    for (int i = 0; i < x.search(2); i++) all.append(';').append(x.line(i));
    int n = Math.min(20, x.solutions());
    for (int i = 0; i < n; i++) all.append(';').append(x.solution(i)).append('$').append(x.cost(i));
    return all.toString();
  }

  static String ranges(Wishsolver x, int variable) {
    return x.range(variable, true) + "/" + x.range(variable, false);
  }

  static String rule(Wishsolver x, int rule) {
    StringBuilder all = new StringBuilder();
    for (int what = 0; what <= 6; what++) all.append(what == 0 ? "" : " ").append(x.ofRule(rule, what));
    return all.toString();
  }

  /** All solutions, one behind the other. */
  static String solutions(Wishsolver x) {
    StringBuilder all = new StringBuilder();
    for (int i = 0; i < x.solutions(); i++) all.append(i == 0 ? "" : ", ").append(x.solution(i));
    return all.toString();
  }

  /** A new object with variables of these told sets. */
  static Wishsolver with(int... sets) {
    Wishsolver x = new Wishsolver();
    for (int set : sets) x.variable(set);
    return x;
  }

  /** The same with twelve rules that take nothing. */
  static Wishsolver full(int... sets) {
    Wishsolver x = with(sets);
    for (int i = 0; i < 12; i++) x.often(1, 0, 0, 6, 0);
    return x;
  }

  /** The digest, put together outside from all that is asked, and wrapped around at its end alone. */
  static long checksum(Wishsolver x) {
    return wide(x).longValue();
  }

  static BigInteger wide(Wishsolver x) {
    List<Integer> all = new ArrayList<>();
    for (int i = 0; i <= 11; i++) all.add(x.house(i));
    for (int i = 0; i < x.house(0); i++) all.addAll(List.of(x.range(i, true), x.range(i, false), x.weight(i)));
    for (int i = 0; i < x.house(1); i++) for (int k = 0; k <= 6; k++) all.add(x.ofRule(i, k));
    all.add(x.waiting().length());
    all.add(x.solutions());
    boolean isSolvable = x.solutions() > 0;
    all.add(isSolvable ? x.best(false) : -1);
    all.add(isSolvable ? x.best(true) : -1);
    all.add(x.unlikes(3));
    all.add(isSolvable ? -1 : x.core().length());
    all.add(x.tights(1));
    all.add(x.tights(2));
    for (int i = 0; i <= 6; i++) all.add(x.search(i));
    all.add(x.chosen().length());
    for (int i = 0; i < x.search(2); i++) all.add(x.line(i).length());
    all.add(x.right());
    all.add(x.isSound() ? 1 : 0);
    BigInteger d = BigInteger.valueOf(6121);
    for (int v : all) d = d.multiply(BigInteger.valueOf(31)).add(BigInteger.valueOf(v));
    return d;
  }

  static void terms(Wishsolver x, int... weights) {
    for (int i = 0; i < weights.length; i++) if (weights[i] != 0) x.term(i, weights[i]);
  }

  static void end(String name) {
    System.out.println(name + ": " + (wrong == 0 ? "all as due" : wrong + " not as due"));
    if (wrong != 0) System.exit(1);
  }
}
