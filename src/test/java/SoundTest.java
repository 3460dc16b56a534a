import java.lang.reflect.Field;

/**
 * No run of calls makes isSound() false. So the object is spoilt from outside here, in each part that it looks at
 * and that can be spoilt, to see that it looks.
 */
public final class SoundTest {
  public static void main(String[] args) throws Exception {
    valueOfASolution();
    valueThatARuleWouldTake();
    failedWithASolution();
    wrongLine();
    Check.end("SoundTest");
  }

  private static Wishsolver settled(int price) {
    Wishsolver x = Check.with(7, 7);
    x.order(0, 1, 1, price);
    x.settle();
    Check.same("a settled house is sound", x.isSound(), true);
    return x;
  }

  private static void valueOfASolution() throws Exception {
    for (int variable = 0; variable < 2; variable++) {
      Wishsolver x = settled(0);
      int[] ranges = (int[]) part(x, "ranges");
      int range = ranges[variable];
      for (int less = range & range - 1; less > 0; less = less - 1 & range) {
        ranges[variable] = less;
        Check.same("sound with the range " + less + " of " + variable, x.isSound(), false);
      }
      ranges[variable] = range;
      Check.same("sound again", x.isSound(), true);
    }
  }

  private static void valueThatARuleWouldTake() throws Exception {
    Wishsolver x = settled(0);
    ((int[]) part(x, "ranges"))[0] = 7;
    Check.same("sound with a value that a hard rule would take", x.isSound(), false);
    x.suppose();
    x.order(0, 1, 1, 0);
    Check.same("sound with such a value, but a rule that waits", x.isSound(), true);
    x.back();
    Check.same("sound when it waits no longer", x.isSound(), false);
    Check.same("sound with a value that a soft rule would take", settled(3).isSound(), true);
  }

  private static void failedWithASolution() throws Exception {
    Wishsolver x = settled(0);
    int[] ranges = (int[]) part(x, "ranges");
    ranges[0] = 0;
    ranges[1] = 0;
    Check.same("failed", x.house(4), 1);
    Check.same("sound if it has failed with a solution", x.isSound(), false);
  }

  /** The line says that 0=0 fails, which is right, and then that 0=1 does, which has a solution. */
  private static void wrongLine() throws Exception {
    for (int value = 0; value < 2; value++) {
      Wishsolver x = new Wishsolver();
      x.puzzle(0, 4);
      x.begin(false, 0);
      x.run(2);
      Object line = ((Object[]) part(part(x, "seeker"), "lines"))[0];
      ((int[]) part(line, "values"))[0] = value;
      Check.same("the line", x.line(0), "0=" + value);
      Check.same("right with the line 0=" + value, x.right(), 1 - value);
      Check.same("sound with the line 0=" + value, x.isSound(), value == 0);
      Check.same("digest with the line 0=" + value, x.digest(), Check.checksum(x));
    }
  }

  private static Object part(Object whole, String name) throws Exception {
    Field field = whole.getClass().getDeclaredField(name);
    field.setAccessible(true);
    return field.get(whole);
  }
}
