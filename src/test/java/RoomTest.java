import com.sun.management.ThreadMXBean;
import java.lang.management.ManagementFactory;

/** All calls of a run live in one room: no call makes objects, and a new object makes few. */
public final class RoomTest {
  private static final int MOST_BYTES_OF_A_NEW_ONE = 20000;
  private static final int MOST_BYTES_OF_THE_CALLS = 4000;

  private static long allCalls(OnlyRhymes x) {
    long sum = x.clear() + x.type('t') + x.read() + x.tongue();
    for (int w = 0; w < 10; w++) sum += x.word(w % 3, w % 8, w);
    for (int p = 0; p < 5; p++) sum += x.person(p + 1, p);
    sum += x.alike(0, 1, 1) + x.ask(0, 0, 1) + x.undo() + x.rest() + x.of(0, 0) + x.about(0, 0);
    sum += x.answers(0, 0, 2) + x.asks(0, 0) + x.fewest(0, 255) + x.errand(255, 0) + x.hear(0, 1);
    for (int kind = 0; kind < 6; kind++) sum += x.wants(kind) + x.next(kind, 0) + x.will(kind, 0);
    for (int what = 0; what < 3; what++) sum += x.two(0, 1, 0, what);
    sum += x.forget() + x.worst(0) + x.allow(1, 255, 0) + x.misheard(0, 0, 0, 3) + x.talks(5, 60) + x.part(0);
    return sum + x.image(0) + x.from(0) + x.status(0) + x.count(0) + x.digest();
  }

  public static void main(String[] args) {
    ThreadMXBean bean = (ThreadMXBean) ManagementFactory.getThreadMXBean();
    long sum = allCalls(new OnlyRhymes());
    long start = bean.getCurrentThreadAllocatedBytes();
    OnlyRhymes x = new OnlyRhymes();
    long made = bean.getCurrentThreadAllocatedBytes();
    for (int i = 0; i < 100; i++) sum += allCalls(x);
    long end = bean.getCurrentThreadAllocatedBytes();
    System.out.println("a new object: " + (made - start) + " bytes, calls: " + (end - made) + " bytes (" + sum + ")");
    if (made - start > MOST_BYTES_OF_A_NEW_ONE || end - made > MOST_BYTES_OF_THE_CALLS) {
      System.out.println("that is too much");
      System.exit(1);
    }
  }
}
