import com.sun.management.ThreadMXBean;
import java.lang.management.ManagementFactory;

/** All calls of a run live in one room: what an object and its 512 dearest calls make stays small. */
public final class RoomTest {
  private static final Due due = new Due();
  private static final ThreadMXBean threads = (ThreadMXBean) ManagementFactory.getThreadMXBean();

  private static long made() {
    return threads.getThreadAllocatedBytes(Thread.currentThread().getId());
  }

  private static KitePost busy() {
    KitePost post = new KitePost();
    for (int i = 0; i < 8; i++) {
      post.hill(34 * i, i % 3);
    }
    for (int i = 0; i < 7; i++) {
      post.kite(10 * i, i, 9940);
      post.aim(i, (i + 3) % 8);
    }
    for (int i = 0; i < 12; i++) {
      post.letter(i % 8, (i + 5) % 8, i, i - 1);
    }
    for (int hour = 0; hour < 24; hour++) {
      post.wind(hour, 10 * (hour % 8) + 1 + hour % 9);
    }
    Due.read(post, 0, "!(!(!(!(!f+d)+l)+k)+1)+2|1&(((((3)))))");
    return post;
  }

  private static long dearest(KitePost post, int i) {
    switch (i % 9) {
      case 0: return post.fresh(0, 7, i % 90, i % 2);
      case 1: return post.best(i % 7, 72);
      case 2: return post.sure(7, i % 90, 1003, 0);
      case 3: return post.then(72, 1);
      case 4: return post.image();
      case 5: return post.restore();
      case 6: return Due.read(post, 1, "h");
      case 7: return post.voice(6, 3, i);
      default: return post.soonest(0, 7, i % 90);
    }
  }

  public static void main(String[] args) {
    for (int round = 0; round < 2; round++) {
      long begin = made();
      KitePost post = busy();
      long afterMaking = made();
      for (int i = 0; i < 450; i++) {
        dearest(post, i);
      }
      long end = made();
      if (round == 1) { // the first round loads classes
        due.holds("an object makes " + (afterMaking - begin) + " bytes", afterMaking - begin < 20000);
        due.holds("450 calls make " + (end - afterMaking) + " bytes", end - afterMaking < 20000);
      }
    }
    due.end();
  }
}
