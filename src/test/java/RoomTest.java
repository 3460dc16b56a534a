import java.lang.management.ManagementFactory;

/** What calls make is little: the room for all calls of a run is small, and most of it is made with the object. */
public final class RoomTest {
  private static final com.sun.management.ThreadMXBean THREADS = (com.sun.management.ThreadMXBean) ManagementFactory.getThreadMXBean();
  private static final long MOST_OF_AN_OBJECT = 200_000;
  private static final long MOST_OF_A_CALL = 400;
  private static final int CALLS = 400;

  private interface Call {
    void make(Wishsolver x);
  }

  public static void main(String[] args) {
    for (int i = 0; i < 3; i++) all(i == 2);
    Check.end("RoomTest");
  }

  private static void all(boolean isCounted) {
    long before = THREADS.getCurrentThreadAllocatedBytes();
    Wishsolver made = new Wishsolver();
    made.begin(false, 0);
    long bytes = THREADS.getCurrentThreadAllocatedBytes() - before;
    if (isCounted) Check.same("an object and its search in room", bytes < MOST_OF_AN_OBJECT ? "all" : bytes + " bytes", "all");
    calls(isCounted, "digest", x -> x.digest());
    calls(isCounted, "isSound", x -> x.isSound());
    calls(isCounted, "begin", x -> x.begin(true, -11));
    calls(isCounted, "run", x -> x.run(12));
    calls(isCounted, "solution", x -> x.solution(0));
    calls(isCounted, "best", x -> x.best(true));
    calls(isCounted, "tights", x -> x.tights(4));
    calls(isCounted, "waiting", x -> x.waiting());
    calls(isCounted, "chosen", x -> x.chosen());
    calls(isCounted, "suppose", x -> {
      x.suppose();
      x.back();
    });
    calls(isCounted, "sum", x -> {
      x.term(0, 1);
      x.drop(x.sum(0, 0, 0));
    });
    calls(isCounted, "puzzle", x -> x.puzzle(0, 5));
    calls(isCounted, "settle", x -> {
      x.drop(0);
      x.order(0, 1, 1, 0);
      x.settle();
    });
    calls(isCounted, "alike", x -> x.alike(0, 3));
  }

  private static void calls(boolean isCounted, String name, Call call) {
    Wishsolver x = GoingEdges.tooManyLines();
    x.begin(true, -11);
    x.run(12);
    call.make(x);
    long before = THREADS.getCurrentThreadAllocatedBytes();
    for (int i = 0; i < CALLS; i++) call.make(x);
    long each = (THREADS.getCurrentThreadAllocatedBytes() - before) / CALLS;
    if (isCounted) Check.same(name + "() in room", each <= MOST_OF_A_CALL ? "all" : each + " bytes", "all");
  }
}
