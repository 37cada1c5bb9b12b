import com.sun.management.ThreadMXBean;
import java.lang.management.ManagementFactory;

/** LANGUAGE.md: all calls of a run live in one room, so that no call may make much. */
public final class RoomTest {
  private static final ThreadMXBean BEAN = (ThreadMXBean) ManagementFactory.getThreadMXBean();

  private static long made() {
    return BEAN.getThreadAllocatedBytes(Thread.currentThread().getId());
  }

  private static int dearest(FrostWills x, int i) {
    switch (i % 12) {
      case 0: return x.best(-1);
      case 1: return x.share(0);
      case 2: return x.breath(0, 99999, 0);
      case 3: return x.loose(30);
      case 4: return x.feed(0x2B312B312B312B31L, 8);
      case 5: return x.text(1);
      case 6: return x.image();
      case 7: return x.restore();
      case 8: return x.sheet(0, 32, 24);
      case 9: return x.fits(0, 5, 0);
      case 10: return x.voice(0, 2, i);
      default: return x.round(1);
    }
  }

  private static long run() {
    FrostWills x = new FrostWills();
    x.heir();
    for (int i = 0; i < 6; i++) {
      x.pane(10 * i, 19, i, 0, 5);
    }
    long ahead = made();
    int sum = 0;
    for (int i = 0; i < 500; i++) {
      sum ^= dearest(x, i);
    }
    long more = made() - ahead;
    return sum == 1 ? more + 1 : more;
  }

  public static void main(String[] args) {
    run();
    long ahead = made();
    FrostWills x = new FrostWills();
    long object = made() - ahead;
    Due.due("an object stays small", object > 20000 ? object : 0, 0);
    long calls = run();
    Due.due("calls make next to nothing", calls > 20000 ? calls : 0, 0);
    Due.due("and it is an object", x.count(0), 0);
    Due.end("RoomTest");
  }
}
