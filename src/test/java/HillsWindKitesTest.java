/** Promises 1 to 11: a new object, hills, wind, kites. */
public final class HillsWindKitesTest {
  private static final Due due = new Due();

  public static void main(String[] args) {
    aNewObject();
    hills();
    wind();
    kites();
    kinds();
    aims();
    pullByKinds();
    pullTakesLoadHeightAndLaw();
    stands();
    over();
    due.end();
  }

  /** Hills at x 0, 4, 8, 12 on y 0, of height 0, 3, 0, 9. */
  private static KitePost fourHills() {
    KitePost post = new KitePost();
    post.hill(0, 0);
    post.hill(64, 3);
    post.hill(128, 0);
    post.hill(192, 9);
    return post;
  }

  private static void aNewObject() {
    KitePost post = new KitePost();
    int[] counts = {0, 0, 0, 0, 0, 0, 0, 0, 0, 1};
    for (int what = 0; what < counts.length; what++) {
      due.is("new count " + what, post.count(what), counts[what]);
    }
    for (int k = 1; k <= 5; k++) {
      due.is("new told " + k, post.told(k), 0);
    }
    due.is("new: no hill", post.ofHill(0, 0), Due.BEYOND);
    due.is("new: no kite", post.ofKite(0, 0), Due.BEYOND);
    due.is("new: no letter", post.ofLetter(0, 0), Due.BEYOND);
    due.is("new: no image", post.restore(), Due.NONE);
    due.is("new: no sheet", post.winds(0), Due.NONE);
    due.is("new: no trace", post.trace(0), Due.NONE);
    for (int hour = 0; hour < 24; hour++) {
      due.is("new wind " + hour, post.wind(hour, 0), 3);
    }
    due.is("one object changes no other", new KitePost().wind(5, 0), 3);
  }

  private static void hills() {
    KitePost post = new KitePost();
    due.is("first hill", post.hill(255, 9), 0);
    due.is("second hill", post.hill(0, 0), 1);
    due.is("its xy", post.ofHill(0, 0), 255);
    due.is("its height", post.ofHill(0, 1), 9);
    due.is("nothing on it", post.ofHill(0, 2), 0);
    due.is("xy of another", post.ofHill(1, 0), 0);
    due.is("what below", post.ofHill(0, -1), Due.BEYOND);
    due.is("what above", post.ofHill(0, 3), Due.BEYOND);
    due.is("hill below", post.ofHill(-1, 0), Due.BEYOND);
    due.is("hill above", post.ofHill(2, 0), Due.BEYOND);
    due.is("xy below", post.hill(-1, 0), Due.BEYOND);
    due.is("xy above", post.hill(256, 0), Due.BEYOND);
    due.is("high below", post.hill(9, -1), Due.BEYOND);
    due.is("high above", post.hill(9, 10), Due.BEYOND);
    due.is("BEYOND ahead of STATE", post.hill(255, 10), Due.BEYOND);
    due.is("one stands there", post.hill(255, 0), Due.STATE);
    for (int i = 2; i < 9; i++) {
      due.is("hill " + i, post.hill(i, i), i);
    }
    due.is("ten are too many", post.hill(100, 0), Due.FULL);
    due.is("STATE ahead of FULL", post.hill(255, 0), Due.STATE);
    due.is("BEYOND ahead of FULL", post.hill(100, 10), Due.BEYOND);
    due.is("still nine", post.count(1), 9);
    due.is("the ninth", post.ofHill(8, 0), 8);
  }

  private static void wind() {
    KitePost post = new KitePost();
    due.is("as at first", post.wind(0, 79), 3);
    due.is("as it became", post.wind(0, 0), 79);
    due.is("another hour", post.wind(23, 45), 3);
    due.is("hour below", post.wind(-1, 0), Due.BEYOND);
    due.is("hour above", post.wind(24, 0), Due.BEYOND);
    due.is("wind below", post.wind(0, -1), Due.BEYOND);
    due.is("wind above", post.wind(0, 80), Due.BEYOND);
    due.is("unchanged by errors", post.wind(0, 1), 0);
    due.is("the last hour", post.wind(23, 1), 45);
  }

  private static void kites() {
    KitePost post = fourHills();
    due.is("first kite", post.kite(69, 3, 9940), 0);
    int[] first = {6, 9, 3, 99, 40, -1};
    for (int what = 0; what < first.length; what++) {
      due.is("of the first " + what, post.ofKite(0, what), first[what]);
    }
    due.is("second kite", post.kite(0, 0, 1), 1);
    int[] second = {0, 0, 0, 0, 1, -1};
    for (int what = 0; what < second.length; what++) {
      due.is("of the second " + what, post.ofKite(1, what), second[what]);
    }
    due.is("what below", post.ofKite(0, -1), Due.BEYOND);
    due.is("what above", post.ofKite(0, 6), Due.BEYOND);
    due.is("kite below", post.ofKite(-1, 0), Due.BEYOND);
    due.is("kite above", post.ofKite(2, 0), Due.BEYOND);
    due.is("km below", post.kite(-1, 0, 101), Due.BEYOND);
    due.is("km above", post.kite(70, 0, 101), Due.BEYOND);
    due.is("home below", post.kite(0, -1, 101), Due.BEYOND);
    due.is("home above", post.kite(0, 4, 101), Due.BEYOND);
    due.is("line 0", post.kite(0, 0, 100), Due.BEYOND);
    due.is("line 41", post.kite(0, 0, 141), Due.BEYOND);
    due.is("lift above", post.kite(0, 0, 10001), Due.BEYOND);
    due.is("ll below", post.kite(0, 0, -1), Due.BEYOND);
    due.is("ll below, with a line", post.kite(0, 0, -99), Due.BEYOND);
    for (int i = 2; i < 8; i++) {
      due.is("kite " + i, post.kite(0, 0, 101), i);
    }
    due.is("nine are too many", post.kite(0, 0, 101), Due.FULL);
    due.is("BEYOND ahead of FULL", post.kite(0, 0, 100), Due.BEYOND);
    due.is("still eight", post.count(2), 8);
  }

  private static void kinds() {
    KitePost post = fourHills();
    for (int kind = 0; kind < 7; kind++) {
      post.kite(10 * kind, 0, 100 * (kind + 1) + 1);
    }
    int[] above = {0, 0, 0, 0, 1, 2, 3};
    for (int kite = 0; kite < 7; kite++) {
      for (int kind = 0; kind < 7; kind++) {
        boolean is = kind == 0 || kind == kite || kind == above[kite];
        due.is("as " + kite + " " + kind, post.as(kite, kind), is ? kite + 1 : Due.KIND);
      }
    }
    due.is("kind below", post.as(0, -1), Due.BEYOND);
    due.is("kind above", post.as(0, 7), Due.BEYOND);
    due.is("kite below", post.as(-1, 0), Due.BEYOND);
    due.is("kite above", post.as(7, 0), Due.BEYOND);
  }

  private static void aims() {
    KitePost post = fourHills();
    post.kite(0, 1, 1010);
    due.is("none at first", post.aim(0, 3), -1);
    due.is("what it was", post.aim(0, 0), 3);
    due.is("as ofKite tells", post.ofKite(0, 5), 0);
    due.is("its home", post.aim(0, 1), Due.STATE);
    due.is("no such hill", post.aim(0, 4), Due.BEYOND);
    due.is("below none", post.aim(0, -2), Due.BEYOND);
    due.is("no such kite", post.aim(1, 0), Due.BEYOND);
    due.is("no such kite, and its home", post.aim(-1, 1), Due.BEYOND);
    due.is("unchanged by errors", post.aim(0, -1), 0);
    due.is("none again", post.ofKite(0, 5), -1);
    for (int i = 1; i < 8; i++) {
      post.kite(0, 1, 1010);
    }
    due.is("the eighth kite's", post.aim(7, 3), -1);
    due.is("as ofKite tells of it", post.ofKite(7, 5), 3);
  }

  private static void pullByKinds() {
    KitePost post = fourHills();
    for (int kind = 0; kind < 7; kind++) {
      post.kite(10 * kind + 7, 0, 5039);
    }
    // LIFT 50, m 7, LINE 39; to hill 2, as high as home; load 1
    int[] force2 = {53, 44, 51, 60, 88, 60, 60};
    int[] force3 = {55, 55, 52, 62, 110, 61, 62};
    int[] force4 = {57, 57, 53, 64, 114, 62, 64};
    int[] force5 = {59, 59, 54, 52, 118, 63, 52};
    int[][] byForce = {force2, force3, force4, force5};
    for (int force = 2; force <= 5; force++) {
      post.wind(0, force);
      for (int kind = 0; kind < 7; kind++) {
        due.is("pull, force " + force + " kind " + kind, post.pull(kind, 2, 1), byForce[force - 2][kind]);
      }
    }
    post.wind(1, 2);
    post.hours(49);
    due.is("an OLD one is weaker by days", post.pull(6, 2, 1), 58);
    due.is("a SILK one isn't", post.pull(3, 2, 1), 60);
  }

  private static void pullTakesLoadHeightAndLaw() {
    KitePost post = fourHills();
    post.kite(0, 1, 1030);
    post.kite(40, 1, 1030);
    due.is("to a lower hill", post.pull(0, 0, 0), 16);
    due.is("to a higher one, 6 above", post.pull(0, 3, 0), -2);
    due.is("home itself", post.pull(0, 1, 0), 16);
    due.is("load 999", post.pull(0, 0, 999), -983);
    due.is("load below", post.pull(0, 0, -1), Due.BEYOND);
    due.is("load above", post.pull(0, 0, 1000), Due.BEYOND);
    due.is("no such hill", post.pull(0, 4, 0), Due.BEYOND);
    due.is("no such kite", post.pull(2, 0, 0), Due.BEYOND);
    Due.read(post, 0, "f*10+d-l+k");
    // f 3, d 4: 34, less the load, and the kind
    due.is("with LIFTS", post.pull(0, 0, 5), 11 + 29);
    due.is("DOUBLE with LIFTS, once", post.pull(1, 0, 5), 2 * 11 + 33);
    post.wind(0, 39);
    due.is("FORCE 9, whatever DIR is", post.pull(0, 0, 0), 10 + 18 + 94 - 0);
    post.wind(0, 3);
    Due.read(post, 0, "9999");
    due.is("LIFTS is held", post.pull(0, 0, 0), 16 + 99);
  }

  private static void stands() {
    KitePost post = new KitePost();
    post.hill(119, 0); // 7, 7
    int[] around = {135, 136, 120, 104, 103, 102, 118, 134};
    for (int xy : around) {
      post.hill(xy, 0);
    }
    post.kite(0, 0, 1002);
    for (int dir = 0; dir < 8; dir++) {
      post.wind(0, 10 * dir + 1);
      for (int to = 0; to < 8; to++) {
        int apart = Math.min((to - dir + 8) % 8, (dir - to + 8) % 8);
        due.is("dir " + dir + " to " + to, post.stands(0, 1 + to, 0), apart < 2 ? 1 : 0);
      }
      due.is("never over its home", post.stands(0, 0, 0), 0);
    }
    post.wind(0, 0);
    due.is("no force", post.stands(0, 1, 0), 0);
    post.wind(0, 1);
    due.is("pull 0", post.stands(0, 1, 12), 1);
    due.is("pull -1", post.stands(0, 1, 13), 0);
    due.is("line 2 is enough for far 2", post.stands(0, 2, 0), 1);
    post.kite(0, 0, 1001);
    due.is("line 1 isn't", post.stands(1, 2, 0), 0);
    due.is("line 1 for far 1", post.stands(1, 1, 0), 1);
    due.is("load below", post.stands(0, 1, -1), Due.BEYOND);
    due.is("load 999", post.stands(0, 1, 999), 0);
    due.is("load above", post.stands(0, 1, 1000), Due.BEYOND);
    due.is("no such hill", post.stands(0, 9, 0), Due.BEYOND);
    due.is("no such kite", post.stands(2, 1, 0), Due.BEYOND);
    post.hours(1);
    post.wind(1, 40);
    due.is("at the hour of NOW", post.stands(0, 5, 0), 0);
    post.wind(1, 41);
    due.is("by its wind", post.stands(0, 5, 0), 1);
  }

  private static void over() {
    KitePost post = fourHills();
    post.kite(0, 0, 1012);
    post.kite(69, 0, 140); // OLD: LIFT 1, m 9
    due.is("down the wind", post.over(0, 0, 0), 0b0110);
    post.wind(7, 9);
    due.is("by another hour's wind", post.over(0, 7, 0), 0b1110);
    due.is("with a load", post.over(0, 7, 20), 0b0100);
    post.kite(0, 2, 1012);
    post.wind(8, 43);
    due.is("hill 0, too", post.over(2, 8, 0), 0b0011);
    due.is("hour below", post.over(0, -1, 0), Due.BEYOND);
    due.is("hour above", post.over(0, 24, 0), Due.BEYOND);
    due.is("load above", post.over(0, 0, 1000), Due.BEYOND);
    due.is("load below", post.over(0, 0, -1), Due.BEYOND);
    due.is("no such kite", post.over(3, 0, 0), Due.BEYOND);
    due.is("OLD on the first day", post.over(1, 3, 16), 0b0100);
    post.hours(23);
    due.is("still the first day", post.over(1, 3, 16), 0b0100);
    post.hours(1);
    due.is("weaker on the next", post.over(1, 3, 16), 0);
    due.is("in all its hours", post.over(1, 23, 15), 0b0100);
  }
}
