import java.lang.reflect.InvocationTargetException;
import java.lang.reflect.Method;
import java.util.ArrayList;
import java.util.Arrays;
import java.util.Comparator;
import java.util.List;

/**
 * Every method is called with numbers from far below to far above, one argument after the other and then all
 * of them at once, in houses of all kinds: Wishsolver and Model must answer alike, also by their exceptions.
 */
public final class SweepTest {
  private static final int[] ONE = {Integer.MIN_VALUE, Integer.MIN_VALUE + 1, -65536, -1002, -1001, -1000, -999, -102, -101, -100, -99, -65, -64, -63,
    -33, -32, -31, -8, -7, -6, -5, -4, -3, -2, -1, 0, 1, 2, 3, 4, 5, 6, 7, 8, 9, 10, 11, 12, 13, 14, 15, 16, 17, 31, 32, 33, 34, 35, 37, 38, 47, 62, 63, 64,
    65, 66, 95, 96, 99, 100, 101, 102, 127, 128, 255, 256, 257, 999, 1000, 1001, 1002, 7775, 7776, 65535, 65536, 1 << 20, 1 << 30, Integer.MAX_VALUE - 1,
    Integer.MAX_VALUE};
  private static final int[] ALL = {-1, 0, 1, 2, 3, 6, 7, 13};
  private static final int MOST_AT_ONCE = 5000;

  /** Calls that make a house, as texts. */
  private static final String[] HOUSES = {
    "",
    "variable 7; variable 15; variable 3; term 0 2; term 2 -1; goal; unlike 3 0; order 0 1 1 3; settle; term 1 1; row 1 2 3; row 0 1 1;"
        + " begin true 4; run 2; draw",
    "variable 3; variable 3; variable 3; variable 3; variable 3; variable 7; unlike 3 0; order 1 0 5 0; often 63 1 2 4 0; slope 33 2; ring 3 false 4;"
        + " ring 48 true 1; product 0 1 2 7; distance 3 4 5 9; term 4 -3; sum 1 -3 5; often 8 0 0 1 0; order 4 -5 0 0; unlike 5 3; suppose; choose 5 1;"
        + " suppose; look; suppose; suppose; suppose; begin false 0; run 12; term 5 4; row 5 5 5; goal; term 0 1",
    "variable 7; variable 7; unlike 3 0; order 0 1 1 0; order 1 0 0 0; term 0 1; goal; term 1 1; row 0 0 0; settle; begin true 1; run 12",
    "variable 15; variable 7; variable 7; order 0 1 1 0; look; suppose; unlike 6 4; often 5 0 1 1 0; take 2 1; choose 1 2; slope 3 0; look; term 0 -4;"
        + " row 2 2 1; row 3 0 0",
    "puzzle 0 4; begin false 0; run 12; row 0 0 1; row 1 0 0; row 2 0 0; row 3 0 0; row 0 0 1; row 1 0 0; row 2 0 0; row 3 0 0; row 0 0 1; row 1 0 0;"
        + " row 2 0 0; row 3 0 0",
    "variable 1; variable 1; variable 1; variable 1; variable 1; variable 1; term 0 0; term 1 0; term 2 0; term 3 0; term 4 0; term 5 0"};

  private static int calls;
  private static int wrong;

  private Wishsolver solver;
  private Model model;
  private final String house;

  private SweepTest(String house) throws Exception {
    this.house = house;
    build();
  }

  public static void main(String[] args) throws Exception {
    List<Method> methods = new ArrayList<>(Arrays.asList(Wishsolver.class.getDeclaredMethods()));
    methods.removeIf(m -> !java.lang.reflect.Modifier.isPublic(m.getModifiers()));
    methods.sort(Comparator.comparing(Method::getName));
    for (String house : HOUSES) {
      SweepTest test = new SweepTest(house);
      for (Method m : methods) test.sweep(m);
    }
    System.out.println("SweepTest: " + methods.size() + " methods, " + calls + " calls, " + (wrong == 0 ? "all as due" : wrong + " not as due"));
    if (wrong != 0) System.exit(1);
  }

  private void build() throws Exception {
    solver = new Wishsolver();
    model = new Model();
    for (String call : house.isEmpty() ? new String[0] : house.split("; *")) {
      String[] words = call.trim().split(" ");
      Object[] args = new Object[words.length - 1];
      for (int i = 0; i < args.length; i++) args[i] = words[i + 1].matches("true|false") ? (Object) Boolean.valueOf(words[i + 1]) : Integer.valueOf(words[i + 1]);
      Method m = method(Wishsolver.class, words[0], types(args));
      if (!compare(m, args)) throw new IllegalStateException("the house can't be made: " + call);
    }
  }

  private static Class<?>[] types(Object[] args) {
    Class<?>[] types = new Class<?>[args.length];
    for (int i = 0; i < args.length; i++) types[i] = args[i] instanceof Integer ? int.class : boolean.class;
    return types;
  }

  private static Method method(Class<?> in, String name, Class<?>[] types) throws Exception {
    return in.getMethod(name, types);
  }

  private void sweep(Method m) throws Exception {
    int n = m.getParameterCount();
    if (n == 0) {
      check(m, new Object[0]);
      return;
    }
    Object[] base = new Object[n];
    for (int fill = 0; fill < 3; fill++) {
      for (int at = 0; at < n; at++) {
        for (int i = 0; i < n; i++) base[i] = filling(m, i, fill);
        if (m.getParameterTypes()[at] == boolean.class) {
          base[at] = true;
          check(m, base);
          base[at] = false;
          check(m, base);
        } else {
          for (int value : ONE) {
            base[at] = value;
            check(m, base);
          }
        }
      }
    }
    together(m);
  }

  /** An argument that is mostly taken: the variables of a call apart, sets of them, small numbers. */
  private static Object filling(Method m, int at, int fill) {
    if (m.getParameterTypes()[at] == boolean.class) return fill == 1;
    boolean isSet = m.getName().matches("unlike|often|ring|slope") && at == 0;
    if (isSet) return fill == 0 ? 3 : fill == 1 ? 5 : 63;
    if (fill == 2) return 1;
    return fill == 0 ? at : m.getParameterCount() - 1 - at;
  }

  /** All arguments out of a few numbers at once; where that would be too many, every so many-th of them. */
  private void together(Method m) throws Exception {
    int n = m.getParameterCount();
    int many = 1;
    for (int i = 0; i < n; i++) many *= ALL.length;
    int stride = many / MOST_AT_ONCE + 1;
    for (int k = 0; k < many; k += stride) {
      Object[] args = new Object[n];
      int rest = k;
      for (int i = 0; i < n; i++) {
        int value = ALL[rest % ALL.length];
        rest /= ALL.length;
        args[i] = m.getParameterTypes()[i] == boolean.class ? (Object) (value % 2 == 0) : (Object) value;
      }
      check(m, args);
    }
  }

  private void check(Method m, Object[] args) throws Exception {
    calls++;
    long before = solver.digest();
    boolean isAnswered = compare(m, args);
    if (!isAnswered) {
      if (solver.digest() != before) fault(m, args, "it changed something", "nothing");
      return;
    }
    if (solver.digest() == before) return;
    if (model.digest() != solver.digest() || !model.waiting().equals(solver.waiting())) fault(m, args, "another house behind it", "the same");
    build();
  }

  /** Whether the call was answered by both alike; what both refuse is alike, too. */
  private boolean compare(Method m, Object[] args) throws Exception {
    Object got = answer(solver, m, args);
    Object due = answer(model, method(Model.class, m.getName(), m.getParameterTypes()), args);
    if (!due.equals(got)) fault(m, args, got, due);
    return !(due instanceof Class);
  }

  private void fault(Method m, Object[] args, Object got, Object due) {
    wrong++;
    if (wrong <= 20) System.out.println(house + "; " + m.getName() + Arrays.toString(args) + " answered " + got + ", due is " + due);
  }

  private static Object answer(Object target, Method method, Object[] args) throws Exception {
    try {
      return method.invoke(target, args);
    } catch (InvocationTargetException e) {
      return e.getCause().getClass();
    }
  }
}
