/** Promises 21 to 28: hours ahead, ways, aims, new hills, the order of arrivals. */
public final class WaysTest {
  private static final Due due = new Due();

  public static void main(String[] args) {
    ahead();
    aheadErrors();
    soonest();
    soonestWaits();
    sure();
    sureOfAnyWay();
    sureErrors();
    best();
    fresh();
    freshErrors();
    order();
    before();
    due.end();
  }

  private static int xy(int x, int y) {
    return Worlds.xy(x, y);
  }

  private static KitePost aChain() {
    return Worlds.chain(4, 4);
  }

  private static void ahead() {
    KitePost post = aChain();
    post.letter(0, 3, 4, -1);
    post.letter(1, 2, 0, -1);
    int[] arrived = {0, 1, 1, 2, 2};
    int[] paid = {0, 1, 1, 6, 6};
    int[] on = {0, 1, 2, 3, 3};
    int[] when = {-1, -1, -1, 3, 3};
    for (int n = 0; n < 5; n++) {
      due.is("arrived by " + n, post.then(n, 0), arrived[n]);
      due.is("paid by " + n, post.then(n, 1), paid[n]);
      due.is("where by " + n, post.where(n, 0, 5), on[n]);
      due.is("when by " + n, post.where(n, 0, 6), when[n]);
    }
    due.is("nothing has changed", post.count(0) + post.count(4) + post.count(5), 0);
    due.is("nor where it is", post.ofLetter(0, 5), 0);
    due.is("72 hours", post.then(72, 0), 2);

    KitePost hilly = new KitePost();
    hilly.hill(xy(3, 2), 1);
    hilly.hill(xy(3, 9), 5);
    hilly.kite(0, 0, 1040);
    hilly.aim(0, 1);
    hilly.wind(0, 23);
    hilly.wind(1, 23);
    hilly.letter(0, 1, 5, -1);
    due.is("by y and heights, just too heavy", hilly.then(1, 0), 0);
    hilly.letter(0, 1, 4, -1);
    due.is("by y and heights, just not", hilly.then(1, 0), 1);

    for (int i = 0; i < 138; i++) {
      post.hours(72);
    }
    post.hours(63);
    post.letter(0, 3, 0, -1);
    due.is("beyond NOW 9999, too", post.where(3, 2, 6), 10002);
  }

  private static void aheadErrors() {
    KitePost post = aChain();
    due.is("then: n below", post.then(-1, 0), Due.BEYOND);
    due.is("then: n above", post.then(73, 0), Due.BEYOND);
    due.is("then: what below", post.then(0, -1), Due.BEYOND);
    due.is("then: what above", post.then(0, 2), Due.BEYOND);
    due.is("where: no letter", post.where(0, 0, 5), Due.BEYOND);
    post.letter(0, 3, 4, -1);
    due.is("where: letter below", post.where(0, -1, 5), Due.BEYOND);
    due.is("where: n below", post.where(-1, 0, 5), Due.BEYOND);
    due.is("where: n above", post.where(73, 0, 5), Due.BEYOND);
    due.is("where: what 4", post.where(0, 0, 4), Due.BEYOND);
    due.is("where: what 7", post.where(0, 0, 7), Due.BEYOND);
  }

  private static void soonest() {
    KitePost post = aChain();
    due.is("next hill", post.soonest(0, 1, 0), 1);
    due.is("three hills", post.soonest(0, 3, 0), 3);
    due.is("against the wind", post.soonest(3, 0, 0), Due.NONE);
    post.wind(5, 43);
    due.is("to hill 0", post.soonest(1, 0, 0), 6);
    due.is("as heavy as can be", post.soonest(0, 3, 46), 3);
    due.is("too heavy", post.soonest(0, 3, 47), Due.NONE);
    for (int i = 0; i < 3; i++) {
      post.aim(i, -1);
    }
    due.is("aims don't matter", post.soonest(0, 3, 0), 3);
    post.kite(0, 0, 4008);
    due.is("a longer line is sooner", post.soonest(0, 3, 0), 2);
    due.is("one and the same", post.soonest(2, 2, 0), Due.BEYOND);
    due.is("from none such", post.soonest(4, 2, 0), Due.BEYOND);
    due.is("to none such", post.soonest(2, -1, 0), Due.BEYOND);
    due.is("weight below", post.soonest(0, 1, -1), Due.BEYOND);
    due.is("weight 999", post.soonest(0, 1, 999), Due.NONE);
    due.is("weight above", post.soonest(0, 1, 1000), Due.BEYOND);
  }

  private static void soonestWaits() {
    KitePost post = aChain();
    for (int hour = 0; hour < 24; hour++) {
      post.wind(hour, hour == 10 ? 9 : 40);
    }
    due.is("one hour a day: 72 are just enough", post.soonest(0, 3, 0), 59);
    due.is("the first of them", post.soonest(0, 1, 0), 11);
    post.hours(11);
    due.is("from NOW on", post.soonest(0, 1, 0), 24);
    due.is("the third day ends with hour 10", post.soonest(0, 3, 0), 72);
    post.hours(24);
    post.wind(10, 0);
    post.wind(11, 9);
    due.is("an hour later", post.soonest(0, 3, 0), 49);
    post.hours(1);
    due.is("begun an hour too late", post.soonest(0, 3, 0), 72);

    KitePost old = new KitePost();
    old.hill(xy(0, 0), 0);
    old.hill(xy(4, 0), 0);
    old.kite(60, 0, 140); // OLD, LIFT 1
    due.is("OLD: strong enough today", old.soonest(0, 1, 7), 1);
    for (int hour = 0; hour < 24; hour++) {
      old.wind(hour, hour == 10 ? 3 : 0);
    }
    old.hours(11);
    due.is("OLD: too weak tomorrow", old.soonest(0, 1, 7), Due.NONE);
    due.is("OLD: with less it isn't", old.soonest(0, 1, 6), 24);
  }

  private static void sureIs(String what, KitePost post, int ft, int nc, long above, long below) {
    due.is(what + ", above", post.sure(ft, 0, nc, 0), above);
    due.is(what + ", below", post.sure(ft, 0, nc, 1), below);
  }

  private static void sure() {
    KitePost post = aChain();
    sureIs("no hours", post, 1, 0, 0, 1);
    sureIs("never calm", post, 1, 100, 1, 1);
    sureIs("always calm", post, 1, 1010, 0, 1);
    sureIs("one hour, 3 tenths", post, 1, 103, 7, 10);
    sureIs("two hours, 3 tenths", post, 1, 203, 91, 100);
    sureIs("one hour, 4 tenths", post, 1, 104, 3, 5);
    sureIs("one hour, 6 tenths", post, 1, 106, 2, 5);
    sureIs("one hour, 9 tenths", post, 1, 109, 1, 10);
    sureIs("from another hill", post, 23, 203, 91, 100);
    sureIs("two hills in two hours", post, 13, 203, 49, 100);
    sureIs("three hills in two hours", post, 3, 200, 0, 1);
    sureIs("three hills in three hours", post, 3, 305, 1, 8);
    // at least three of four hours: 0.9^4 + 4 * 0.1 * 0.9^3
    sureIs("three hills in four hours", post, 3, 401, 9477, 10000);
    sureIs("ten hours, exactly", post, 1, 1001, 9999999999L, 10000000000L);
    post.wind(0, 43);
    sureIs("nothing in the first hour, to hill 1", post, 1, 203, 7, 10);
    sureIs("back in the first hour", post, 10, 203, 7, 10);
    post.wind(0, 3);
    sureIs("against the wind", post, 30, 1000, 0, 1);
    due.is("too heavy", post.sure(1, 47, 1000, 0), 0);
    due.is("as heavy as can be", post.sure(1, 46, 1000, 0), 1);
  }

  /** Hill 0 to 3 by 1 in the second hour alone or by 2 in the third alone. */
  private static void sureOfAnyWay() {
    KitePost post = new KitePost();
    post.hill(xy(0, 0), 0);
    post.hill(xy(4, 4), 0);
    post.hill(xy(4, 0), 0);
    post.hill(xy(8, 2), 0);
    post.kite(0, 0, 4008);
    post.kite(0, 1, 4006);
    post.kite(0, 2, 4006);
    post.wind(0, 3);
    post.wind(1, 63); // from 1 to 3 y is less
    post.wind(2, 23); // from 2 to 3 y is more
    due.is("by 1 in the second hour", post.over(1, 1, 0), 0b1100);
    due.is("by 2 not then", post.over(2, 1, 0), 0);
    due.is("by 2 in the third", post.over(2, 2, 0), 0b1010);
    due.is("by 1 not then", post.over(1, 2, 0), 0);
    // not calm at first, and not calm in both that follow: 1/2 * 3/4
    sureIs("if there is any way", post, 3, 305, 3, 8);
  }

  private static void sureErrors() {
    KitePost post = aChain();
    due.is("ft below", post.sure(-1, 0, 100, 0), Due.BEYOND);
    due.is("ft below, two hills", post.sure(-12, 0, 100, 0), Due.BEYOND);
    due.is("from none such", post.sure(41, 0, 100, 0), Due.BEYOND);
    due.is("to none such", post.sure(14, 0, 100, 0), Due.BEYOND);
    due.is("ft far above", post.sure(101, 0, 100, 0), Due.BEYOND);
    due.is("one and the same", post.sure(11, 0, 100, 0), Due.BEYOND);
    due.is("weight below", post.sure(1, -1, 100, 0), Due.BEYOND);
    due.is("weight above", post.sure(1, 1000, 100, 0), Due.BEYOND);
    due.is("weight 999", post.sure(1, 999, 100, 0), 0);
    due.is("n 11", post.sure(1, 0, 1100, 0), Due.BEYOND);
    due.is("c 11", post.sure(1, 0, 111, 0), Due.BEYOND);
    due.is("c 99", post.sure(1, 0, 199, 0), Due.BEYOND);
    due.is("nc below", post.sure(1, 0, -1, 0), Due.BEYOND);
    due.is("part below", post.sure(1, 0, 100, -1), Due.BEYOND);
    due.is("part above", post.sure(1, 0, 100, 2), Due.BEYOND);
    due.is("counted", post.told(1), 14);
  }

  private static void best() {
    KitePost post = aChain();
    post.letter(0, 3, 0, -1);
    post.letter(0, 1, 0, -1);
    post.aim(0, -1);
    due.is("nothing arrives in no hours: the least", post.best(0, 0), -1);
    due.is("the only one that helps", post.best(0, 5), 1);
    due.is("the aim stays", post.ofKite(0, 5), -1);
    post.aim(0, 1);
    due.is("a kite that doesn't matter", post.best(2, 1), -1);
    due.is("as it is now", post.best(2, 5), 3);
    due.is("no such kite", post.best(3, 5), Due.BEYOND);
    due.is("kite below", post.best(-1, 5), Due.BEYOND);
    due.is("n below", post.best(0, -1), Due.BEYOND);
    due.is("n above", post.best(0, 73), Due.BEYOND);

    KitePost two = new KitePost();
    two.hill(xy(4, 4), 0);
    two.hill(xy(8, 4), 0);
    two.hill(xy(8, 8), 0);
    two.hill(xy(8, 0), 0);
    two.kite(0, 0, 4020);
    two.letter(0, 2, 0, -1);
    two.letter(0, 3, 0, -1);
    two.letter(0, 3, 0, -1);
    due.is("by which most arrive", two.best(0, 1), 3);
    two.letter(0, 1, 0, -1);
    two.letter(0, 1, 0, -1);
    due.is("of several the least", two.best(0, 1), 1);
  }

  private static void fresh() {
    KitePost post = new KitePost();
    post.hill(xy(0, 0), 0);
    post.hill(xy(15, 0), 0);
    post.kite(0, 0, 4010);
    due.is("too far without", post.soonest(0, 1, 0), Due.NONE);
    // (2, 0) is within 10 of hill 0 and 20 of hill 1, as (2, 2) is; (0, 2) isn't down the wind
    due.is("the place", post.fresh(0, 1, 0, 0), xy(2, 0));
    due.is("and how soon", post.fresh(0, 1, 0, 1), 2);
    due.is("no hill, no kite came", post.count(1) * 10 + post.count(2), 21);
    post.wind(0, 23);
    due.is("the wind of its hour: y first", post.fresh(0, 1, 0, 0), xy(0, 2));
    post.wind(0, 3);
    post.hill(xy(2, 0), 9);
    due.is("none where one stands", post.fresh(0, 1, 0, 0), xy(2, 2));
    due.is("as heavy as both lift", post.fresh(0, 1, 46, 1), 2);
    due.is("too heavy", post.fresh(0, 1, 47, 0), Due.NONE);
    Due.read(post, 0, "0-99*(k=0&d>9)");
    due.is("by LIFTS, none in two", post.fresh(0, 1, 0, 0), xy(6, 0));
    due.is("nearer both", post.fresh(0, 1, 0, 1), 2);

    KitePost line = new KitePost();
    line.hill(xy(0, 0), 0);
    line.hill(xy(15, 9), 0);
    line.kite(0, 0, 4003);
    line.hill(xy(15, 8), 0);
    // FAR to hill 2 is 21 from (2, 0), that to hill 1 20 from (2, 2), which is 4 from hill 0
    due.is("(2, 0) is too far from hill 2", line.fresh(0, 2, 0, 0), Due.NONE);
    line.kite(0, 0, 4004);
    due.is("a line of 20 is just enough from (2, 2)", line.fresh(0, 1, 0, 0), xy(2, 2));

    KitePost later = new KitePost();
    later.hill(xy(0, 0), 0);
    later.hill(xy(8, 0), 0);
    later.hill(xy(15, 0), 0);
    later.kite(0, 0, 4004);
    later.kite(0, 1, 4010);
    Due.read(later, 0, "0-99*(k=0&d>12)");
    // from (2, 0) on hill 2 is 13 away, so by hill 1: three hours; from (4, 0) it is 11: two
    due.is("a later place is sooner by one", later.fresh(0, 2, 0, 0) * 10 + later.fresh(0, 2, 0, 1), xy(4, 0) * 10 + 2);

    KitePost slow = new KitePost();
    slow.hill(xy(0, 0), 0);
    slow.hill(xy(4, 0), 0);
    slow.hill(xy(8, 0), 0);
    slow.hill(xy(12, 0), 0);
    for (int i = 0; i < 3; i++) {
      slow.kite(0, i, 4004);
    }
    Due.read(slow, 0, "0-99*(d>4)");
    for (int hour = 0; hour < 24; hour++) {
      slow.wind(hour, hour == 23 ? 3 : 0);
    }
    due.is("in the 72nd hour", slow.fresh(0, 3, 0, 1), 72);
    due.is("by the least place", slow.fresh(0, 3, 0, 0), xy(0, 2));
    slow.wind(23, 0);
    slow.wind(0, 3);
    slow.hours(1);
    due.is("72 from hour 1 on", slow.fresh(0, 3, 0, 1), 72);
    slow.hours(71);
    slow.hill(xy(15, 1), 0);
    slow.kite(0, 3, 4004);
    due.is("only in the 73rd hour", slow.soonest(0, 4, 0), Due.NONE);
    due.is("and no new hill helps", slow.fresh(0, 4, 0, 0), Due.NONE);
    slow.wind(5, 3);
    due.is("with another hour", slow.soonest(0, 4, 0), 30);

    KitePost near = new KitePost();
    near.hill(xy(0, 0), 0);
    near.hill(xy(4, 0), 0);
    near.kite(0, 0, 4010);
    due.is("what can't be shortened: the least place", near.fresh(0, 1, 0, 0), xy(0, 2));
    due.is("as soon as without", near.fresh(0, 1, 0, 1), 1);

    KitePost odd = new KitePost();
    odd.hill(xy(1, 1), 0);
    odd.hill(xy(3, 1), 0);
    odd.kite(0, 0, 4010);
    due.is("from the very first place on", odd.fresh(0, 1, 0, 0), 0);
  }

  private static void freshErrors() {
    KitePost post = aChain();
    due.is("from none such", post.fresh(4, 1, 0, 0), Due.BEYOND);
    due.is("to none such", post.fresh(0, -1, 0, 0), Due.BEYOND);
    due.is("one and the same", post.fresh(1, 1, 0, 0), Due.BEYOND);
    due.is("weight below", post.fresh(0, 1, -1, 0), Due.BEYOND);
    due.is("weight above", post.fresh(0, 1, 1000, 0), Due.BEYOND);
    due.is("what below", post.fresh(0, 1, 0, -1), Due.BEYOND);
    due.is("what above", post.fresh(0, 1, 0, 2), Due.BEYOND);
    due.is("by none", post.fresh(0, 1, 999, 0), Due.NONE);
    for (int i = 3; i < 8; i++) {
      post.kite(0, 0, 101);
    }
    due.is("8 kites", post.fresh(0, 1, 0, 0), Due.STATE);
    due.is("BEYOND ahead of STATE", post.fresh(0, 1, 0, 2), Due.BEYOND);
    due.is("STATE ahead of NONE", post.fresh(0, 1, 999, 0), Due.STATE);
    KitePost hills = new KitePost();
    for (int i = 0; i < 9; i++) {
      due.is("no STATE yet", i < 2 ? Due.NONE : hills.fresh(0, 1, 999, 0), Due.NONE);
      hills.hill(i, 0);
    }
    due.is("9 hills", hills.fresh(0, 1, 0, 0), Due.STATE);
  }

  /** Hills 0 to 3 in a row, each with a kite aimed at the next, and letters that arrive out of order. */
  private static KitePost answersFirst() {
    KitePost post = aChain();
    post.letter(0, 3, 0, -1); // 0 arrives third of all
    post.letter(2, 3, 0, 0); // 1, an answer to it, at once
    post.letter(2, 3, 0, 1); // 2, an answer to that, at once
    post.letter(1, 3, 0, -1); // 3 an hour later
    post.letter(3, 0, 0, -1); // 4 never
    post.letter(2, 3, 0, 4); // 5, an answer to one that never arrives
    return post;
  }

  private static void rowIs(String what, KitePost post, int which, int... want) {
    for (int i = 0; i < want.length; i++) {
      due.is(what + " " + i, post.order(which, i), want[i]);
    }
    due.is(what + " has no more", post.order(which, want.length), Due.NONE);
  }

  private static void order() {
    KitePost post = answersFirst();
    due.is("none yet", post.order(0, 0), Due.NONE);
    due.is("none yet, mended", post.order(1, 0), Due.NONE);
    post.hours(2);
    rowIs("while 0 hasn't arrived", post, 0, 1, 2, 5, 3);
    rowIs("mended the same", post, 1, 1, 2, 5, 3);
    post.hours(1);
    rowIs("as they arrived", post, 0, 1, 2, 5, 3, 0);
    rowIs("mended", post, 1, 5, 3, 0, 1, 2);
    due.is("what below", post.order(-1, 0), Due.BEYOND);
    due.is("what above", post.order(2, 0), Due.BEYOND);
    due.is("i below", post.order(0, -1), Due.BEYOND);
    due.is("i far above", post.order(1, Integer.MAX_VALUE), Due.NONE);
    due.is("BEYOND ahead of NONE", post.order(2, 99), Due.BEYOND);
  }

  private static void before() {
    KitePost post = answersFirst();
    due.is("none arrived", post.before(), Due.NONE);
    post.hours(1);
    due.is("ahead of its question", post.before(), 1);
    post.hours(2);
    due.is("also behind that one's arrival", post.before(), 1);

    KitePost good = aChain();
    good.letter(0, 1, 0, -1);
    good.letter(0, 1, 0, 0);
    good.letter(0, 1, 0, -1);
    good.hours(1);
    due.is("all in order, in one hour", good.before(), Due.NONE);
    good.letter(0, 3, 0, -1);
    good.letter(2, 3, 0, 3);
    good.hours(1);
    due.is("while its question hasn't arrived", good.before(), 4);

    KitePost sameHour = aChain();
    sameHour.letter(1, 2, 0, -1);
    sameHour.letter(0, 1, 0, 0);
    sameHour.hours(1);
    due.is("in one hour, but taken ahead", sameHour.before(), 1);
  }
}
