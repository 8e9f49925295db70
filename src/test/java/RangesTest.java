/**
 * Every number that a call takes, by the limits of the document's Terms: the least and the most are taken, one less
 * and one more are BEYOND, and so are the ends of the ints.
 */
public final class RangesTest {
  private interface Call {
    long on(KitePost post, int v);
  }

  private static final Due due = new Due();

  public static void main(String[] args) {
    hillsAndWind();
    kites();
    pulls();
    texts();
    letters();
    hours();
    ways();
    sure();
    telling();
    sheets();
    bitsOfSheets();
    due.end();
  }

  /** Taken: whatever the answer is, no BEYOND is told of (another ERROR may be). */
  private static void takes(String what, Call call, int v) {
    KitePost post = Worlds.busy();
    call.on(post, v);
    due.is(what + " " + v + " is taken", post.told(1), 0);
  }

  private static void refuses(String what, Call call, int v) {
    KitePost post = Worlds.busy();
    due.is(what + " " + v, call.on(post, v), Due.BEYOND);
    due.is(what + " " + v + " is told of", post.told(1), 1);
  }

  /** A number that is part of another one (16 * x, and y): its neighbours are looked at, not the ends of the ints. */
  private static void part(String what, int least, int most, Call call) {
    takes(what, call, least);
    takes(what, call, most);
    refuses(what, call, least - 1);
    refuses(what, call, most + 1);
  }

  private static void range(String what, int least, int most, Call call) {
    part(what, least, most, call);
    refuses(what, call, Integer.MIN_VALUE);
    refuses(what, call, Integer.MAX_VALUE);
  }

  private static void hillsAndWind() {
    range("hill: xy", 0, 255, (p, v) -> p.hill(v, 0));
    range("hill: high", 0, 9, (p, v) -> p.hill(0, v));
    range("ofHill: hill", 0, 3, (p, v) -> p.ofHill(v, 0));
    range("ofHill: what", 0, 2, (p, v) -> p.ofHill(0, v));
    range("wind: hour", 0, 23, (p, v) -> p.wind(v, 0));
    range("wind: df", 0, 79, (p, v) -> p.wind(0, v));
    part("wind: DIR", 0, 7, (p, v) -> p.wind(0, 10 * v + 9));
    due.is("no hill of a new object", new KitePost().ofHill(0, 0), Due.BEYOND);
  }

  private static void kites() {
    range("kite: km", 0, 69, (p, v) -> p.kite(v, 0, 101));
    part("kite: KIND", 0, 6, (p, v) -> p.kite(10 * v + 9, 0, 101));
    range("kite: home", 0, 3, (p, v) -> p.kite(0, v, 101));
    range("kite: ll", 1, 9940, (p, v) -> p.kite(0, 0, v));
    part("kite: LIFT with the shortest line", 0, 99, (p, v) -> p.kite(0, 0, 100 * v + 1));
    part("kite: LIFT with the longest line", 0, 99, (p, v) -> p.kite(0, 0, 100 * v + 40));
    part("kite: LINE of the least LIFT", 1, 40, (p, v) -> p.kite(0, 0, v));
    part("kite: LINE of the greatest LIFT", 1, 40, (p, v) -> p.kite(0, 0, 9900 + v));
    range("ofKite: kite", 0, 2, (p, v) -> p.ofKite(v, 0));
    range("ofKite: what", 0, 5, (p, v) -> p.ofKite(0, v));
    range("as: kite", 0, 2, (p, v) -> p.as(v, 0));
    range("as: kind", 0, 6, (p, v) -> p.as(2, v));
    range("aim: kite", 0, 2, (p, v) -> p.aim(v, 3));
    range("aim: hill", -1, 3, (p, v) -> p.aim(1, v));
    due.is("no kite of a new object", new KitePost().ofKite(0, 0), Due.BEYOND);
  }

  private static void pulls() {
    range("pull: kite", 0, 2, (p, v) -> p.pull(v, 3, 0));
    range("pull: hill", 0, 3, (p, v) -> p.pull(1, v, 0));
    range("pull: load", 0, 999, (p, v) -> p.pull(0, 1, v));
    range("stands: kite", 0, 2, (p, v) -> p.stands(v, 3, 0));
    range("stands: hill", 0, 3, (p, v) -> p.stands(1, v, 0));
    range("stands: load", 0, 999, (p, v) -> p.stands(0, 1, v));
    range("over: kite", 0, 2, (p, v) -> p.over(v, 0, 0));
    range("over: hour", 0, 23, (p, v) -> p.over(0, v, 0));
    range("over: load", 0, 999, (p, v) -> p.over(0, 0, v));
  }

  private static void texts() {
    range("feed: n", 1, 8, (p, v) -> p.feed(-1L, v));
    range("text: use", 0, 1, (p, v) -> p.text(v));
    range("law: use", 0, 1, (p, v) -> p.law(v, 0, 0, 0, 0));
  }

  private static void letters() {
    range("cross: one", 0, 2, (p, v) -> p.cross(v, 1));
    range("cross: other", 0, 2, (p, v) -> p.cross(1, v));
    refuses("cross: one twice", (p, v) -> p.cross(v, v), 0);
    refuses("cross: one twice", (p, v) -> p.cross(v, v), 2);
    range("lines: what", 0, 1, (p, v) -> p.lines(v));
    range("letter: from", 0, 3, (p, v) -> p.letter(v, 1, 0, -1));
    range("letter: to", 0, 3, (p, v) -> p.letter(1, v, 0, -1));
    refuses("letter: from and to the same", (p, v) -> p.letter(v, v, 0, -1), 0);
    refuses("letter: from and to the same", (p, v) -> p.letter(v, v, 0, -1), 3);
    range("letter: weight", 0, 30, (p, v) -> p.letter(0, 1, v, -1));
    range("letter: answer", -1, 3, (p, v) -> p.letter(0, 1, 0, v));
    range("ofLetter: letter", 0, 3, (p, v) -> p.ofLetter(v, 0));
    range("ofLetter: what", 0, 6, (p, v) -> p.ofLetter(0, v));
    due.is("no letter of a new object", new KitePost().ofLetter(0, 0), Due.BEYOND);
  }

  private static void hours() {
    range("hours: n", 1, 72, (p, v) -> p.hours(v));
    range("loose: n", 1, 72, (p, v) -> p.loose(v, 5));
    range("loose: loose", 0, 10, (p, v) -> p.loose(1, v));
    range("then: n", 0, 72, (p, v) -> p.then(v, 0));
    range("then: what", 0, 1, (p, v) -> p.then(1, v));
    range("where: n", 0, 72, (p, v) -> p.where(v, 0, 5));
    range("where: letter", 0, 3, (p, v) -> p.where(1, v, 5));
    range("where: what", 5, 6, (p, v) -> p.where(1, 0, v));
  }

  private static void ways() {
    range("soonest: from", 0, 3, (p, v) -> p.soonest(v, 1, 0));
    range("soonest: to", 0, 3, (p, v) -> p.soonest(1, v, 0));
    refuses("soonest: one and the same", (p, v) -> p.soonest(v, v, 0), 2);
    range("soonest: weight", 0, 999, (p, v) -> p.soonest(0, 1, v));
    range("best: kite", 0, 2, (p, v) -> p.best(v, 1));
    range("best: n", 0, 72, (p, v) -> p.best(0, v));
    range("fresh: from", 0, 3, (p, v) -> p.fresh(v, 1, 0, 0));
    range("fresh: to", 0, 3, (p, v) -> p.fresh(1, v, 0, 0));
    refuses("fresh: one and the same", (p, v) -> p.fresh(v, v, 0, 0), 2);
    range("fresh: weight", 0, 999, (p, v) -> p.fresh(0, 1, v, 0));
    range("fresh: what", 0, 1, (p, v) -> p.fresh(0, 1, 0, v));
    range("order: what", 0, 1, (p, v) -> p.order(v, 0));
    takes("order: i", (p, v) -> p.order(0, v), 0);
    takes("order: i", (p, v) -> p.order(0, v), Integer.MAX_VALUE);
    refuses("order: i", (p, v) -> p.order(0, v), -1);
    refuses("order: i", (p, v) -> p.order(1, v), Integer.MIN_VALUE);
  }

  private static void sure() {
    range("sure: ft", 1, 32, (p, v) -> p.sure(v, 0, 305, 0));
    part("sure: from", 0, 3, (p, v) -> p.sure(10 * v + 2 - v % 2, 0, 305, 0));
    part("sure: to", 0, 3, (p, v) -> p.sure(10 + v, 0, 305, 0));
    refuses("sure: one and the same", (p, v) -> p.sure(v, 0, 305, 0), 0);
    refuses("sure: one and the same", (p, v) -> p.sure(v, 0, 305, 0), 33);
    range("sure: weight", 0, 999, (p, v) -> p.sure(1, v, 305, 0));
    range("sure: nc", 0, 1010, (p, v) -> p.sure(1, 0, v, 0));
    part("sure: n, never calm", 0, 10, (p, v) -> p.sure(1, 0, 100 * v, 0));
    part("sure: n, always calm", 0, 10, (p, v) -> p.sure(1, 0, 100 * v + 10, 0));
    part("sure: c of no hours", 0, 10, (p, v) -> p.sure(1, 0, v, 0));
    part("sure: c of ten hours", 0, 10, (p, v) -> p.sure(1, 0, 1000 + v, 0));
    range("sure: part", 0, 1, (p, v) -> p.sure(1, 0, 305, v));
  }

  private static void telling() {
    range("voice: kite", 0, 2, (p, v) -> p.voice(v, 0, 0));
    range("voice: act", 0, 3, (p, v) -> p.voice(0, v, 0));
    range("check: letter", 0, 3, (p, v) -> p.check(v));
    range("count: what", 0, 9, (p, v) -> p.count(v));
    range("told: k", 1, 5, (p, v) -> p.told(v));
  }

  private static void sheets() {
    range("sheet: sheet", 0, 3, (p, v) -> p.sheet(v, 8, 1));
    takes("sheet: n", (p, v) -> p.sheet(3, 32, v), 0);
    takes("sheet: n", (p, v) -> p.sheet(3, 32, v), 40);
    takes("sheet: n of STATE", (p, v) -> p.sheet(3, 32, v), -1);
    refuses("sheet: n", (p, v) -> p.sheet(3, 32, v), 41);
    refuses("sheet: n", (p, v) -> p.sheet(3, 32, v), Integer.MAX_VALUE);
    range("put: sheet", 0, 3, (p, v) -> p.put(v, 0, 0));
    range("put: i", 0, 4, (p, v) -> p.put(0, v, 0));
    range("move: sheet", 0, 3, (p, v) -> p.move(v, 0, 3, 0, 0));
    range("move: other", 0, 3, (p, v) -> p.move(3, 0, v, 0, 0));
    range("move: n", 0, 5, (p, v) -> p.move(0, 0, 0, 0, v));
    range("move: i", 0, 4, (p, v) -> p.move(0, v, 0, 0, 1));
    range("move: j", 0, 4, (p, v) -> p.move(0, 0, 0, v, 1));
    range("move: i of two", 0, 3, (p, v) -> p.move(0, v, 0, 0, 2));
    range("move: j of two", 0, 3, (p, v) -> p.move(0, 0, 0, v, 2));
    range("winds: sheet", 0, 3, (p, v) -> p.winds(v));
  }

  private static void bitsOfSheets() {
    for (int bits = -40; bits <= 70; bits++) {
      if (bits == 0 || bits == 8 || bits == 16 || bits == 32) {
        takes("sheet: bits", (p, v) -> p.sheet(0, v, 1), bits);
      } else {
        refuses("sheet: bits", (p, v) -> p.sheet(0, v, 1), bits);
      }
    }
    refuses("sheet: bits", (p, v) -> p.sheet(0, v, 1), Integer.MIN_VALUE);
    refuses("sheet: bits", (p, v) -> p.sheet(0, v, 1), Integer.MAX_VALUE);
  }
}
