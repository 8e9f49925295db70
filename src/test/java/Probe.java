import java.util.ArrayList;
import java.util.List;

/**
 * All that can be seen of a post but what told() tells, its image too: posts of like state give like rows. What is
 * looked at is used up by it.
 */
final class Probe {
  private final KitePost post;
  private final List<String> seen = new ArrayList<>();

  private Probe(KitePost post) {
    this.post = post;
  }

  static List<String> of(KitePost post) {
    Probe probe = new Probe(post);
    probe.look("now");
    probe.winds();
    probe.sheets();
    probe.see("text of the tape", post.text(1));
    probe.see("law by it", post.law(1, 300, 20, 3, 4));
    probe.see("check", post.check(1));
    probe.see("restore", post.restore());
    probe.look("image");
    probe.winds();
    probe.see("image", post.image());
    return probe.seen;
  }

  private void see(String what, long answer) {
    seen.add(what + " " + answer);
  }

  /** What can be looked at without changing it. */
  private void look(String when) {
    int[] counts = new int[10];
    for (int what = 0; what < counts.length; what++) {
      counts[what] = post.count(what);
      see(when + " count " + what, counts[what]);
    }
    int[] fields = {0, 3, 6, 7};
    for (int of = 1; of <= 3; of++) {
      for (int i = 0; i < counts[of]; i++) {
        for (int what = 0; what < fields[of]; what++) {
          int answer = of == 1 ? post.ofHill(i, what) : of == 2 ? post.ofKite(i, what) : post.ofLetter(i, what);
          see(when + " of " + of + " " + i + " " + what, answer);
        }
      }
    }
    for (int i = 0; i < counts[4]; i++) {
      see(when + " order " + i, post.order(0, i));
      see(when + " mended " + i, post.order(1, i));
    }
    for (int i = 0; i < counts[8]; i++) {
      see(when + " trace " + i, post.trace(i));
    }
    see(when + " LIFTS", post.law(0, 1, 20, 3, 4));
    see(when + " PAYS", post.law(1, 30, 2, 3, 4));
  }

  private void winds() {
    for (int hour = 0; hour < 24; hour++) {
      see("wind " + hour, post.wind(hour, 3));
    }
  }

  /** Their numbers as the wind gets them, then their bits: 5 stays of a number that is cut to them. */
  private void sheets() {
    for (int sheet = 0; sheet < 4; sheet++) {
      int came = post.winds(sheet);
      see("winds of " + sheet, came);
      for (int i = 0; i < came; i++) {
        see("number " + i, post.wind(i, 3));
      }
      for (int v : new int[] {0x105, 0x10005}) {
        see("put " + v, post.put(sheet, 0, v));
        see("winds then", post.winds(sheet));
      }
    }
  }
}
