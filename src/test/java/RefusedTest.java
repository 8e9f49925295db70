import java.util.List;
import java.util.function.Supplier;
import java.util.function.ToLongFunction;

/**
 * Every ERROR of every act, and the order in which they are asked. Each call is made on one of two posts of like
 * state: it must answer its ERROR, told() must count just that one, and nothing else may be unlike afterwards.
 */
public final class RefusedTest {
  private static final Due due = new Due();

  public static void main(String[] args) {
    hillsAndWind();
    kites();
    texts();
    linesAndLetters();
    hours();
    ways();
    order();
    voicesAndTrace();
    sheets();
    moves();
    imagesAndTold();
    checkLeavesNoneWaiting();
    due.end();
  }

  private static void refused(String what, Supplier<KitePost> world, int error, ToLongFunction<KitePost> act) {
    KitePost post = world.get();
    KitePost twin = world.get();
    due.is(what, act.applyAsLong(post), error);
    for (int k = 1; k <= 5; k++) {
      due.is(what + ": told " + k, post.told(k), twin.told(k) + (error == Due.BEYOND + 1 - k ? 1 : 0));
    }
    sameState(what, post, twin);
  }

  private static void sameState(String what, KitePost post, KitePost twin) {
    List<String> seen = Probe.of(post);
    List<String> want = Probe.of(twin);
    due.is(what + ": how much is seen", seen.size(), want.size());
    for (int i = 0; i < Math.min(seen.size(), want.size()); i++) {
      due.holds(what + " changes nothing: " + seen.get(i) + ", due is " + want.get(i), seen.get(i).equals(want.get(i)));
    }
  }

  private static void beyond(String what, ToLongFunction<KitePost> act) {
    refused(what, Worlds::busy, Due.BEYOND, act);
  }

  private static void hillsAndWind() {
    beyond("hill: xy below", p -> p.hill(-1, 0));
    beyond("hill: xy above", p -> p.hill(256, 0));
    beyond("hill: high below", p -> p.hill(2, -1));
    beyond("hill: high above", p -> p.hill(2, 10));
    refused("hill: one stands there", Worlds::busy, Due.STATE, p -> p.hill(Worlds.xy(5, 1), 9));
    beyond("hill: BEYOND ahead of STATE", p -> p.hill(Worlds.xy(5, 1), 10));
    refused("hill: a tenth", Worlds::nineHills, Due.FULL, p -> p.hill(0, 0));
    refused("hill: STATE ahead of FULL", Worlds::nineHills, Due.STATE, p -> p.hill(Worlds.xy(8, 15), 0));
    refused("hill: BEYOND ahead of FULL", Worlds::nineHills, Due.BEYOND, p -> p.hill(256, 0));
    beyond("ofHill: hill", p -> p.ofHill(4, 0));
    beyond("ofHill: what", p -> p.ofHill(0, 3));
    beyond("wind: hour", p -> p.wind(24, 0));
    beyond("wind: df", p -> p.wind(5, 80));
  }

  private static void kites() {
    beyond("kite: km", p -> p.kite(70, 0, 101));
    beyond("kite: home", p -> p.kite(0, 4, 101));
    beyond("kite: LINE 0", p -> p.kite(0, 0, 100));
    beyond("kite: LINE 41", p -> p.kite(0, 0, 141));
    refused("kite: a ninth", Worlds::eightKites, Due.FULL, p -> p.kite(0, 0, 101));
    refused("kite: BEYOND ahead of FULL", Worlds::eightKites, Due.BEYOND, p -> p.kite(0, 4, 101));
    beyond("ofKite: kite", p -> p.ofKite(3, 0));
    beyond("ofKite: what", p -> p.ofKite(0, 6));
    beyond("as: kite", p -> p.as(3, 0));
    beyond("as: kind", p -> p.as(2, 7));
    refused("as: not of that KIND", Worlds::busy, Due.KIND, p -> p.as(1, 3));
    refused("as: a KIND under its own", Worlds::busy, Due.KIND, p -> p.as(0, 1));
    beyond("as: BEYOND ahead of KIND", p -> p.as(3, 6));
    beyond("aim: kite", p -> p.aim(3, 1));
    beyond("aim: hill above", p -> p.aim(0, 4));
    beyond("aim: hill below -1", p -> p.aim(0, -2));
    refused("aim: its home", Worlds::busy, Due.STATE, p -> p.aim(1, 1));
    beyond("pull: kite", p -> p.pull(3, 0, 0));
    beyond("pull: hill", p -> p.pull(0, 4, 0));
    beyond("pull: load", p -> p.pull(0, 1, 1000));
    beyond("stands: kite", p -> p.stands(3, 0, 0));
    beyond("stands: hill", p -> p.stands(0, 4, 0));
    beyond("stands: load", p -> p.stands(0, 1, 1000));
    beyond("over: kite", p -> p.over(3, 0, 0));
    beyond("over: hour", p -> p.over(0, 24, 0));
    beyond("over: load", p -> p.over(0, 0, 1000));
  }

  private static void texts() {
    beyond("feed: n 0", p -> p.feed('1', 0));
    beyond("feed: n 9", p -> p.feed('1', 9));
    refused("feed: a byte more than 50", Worlds::fullTape, Due.FULL, p -> p.feed('1', 1));
    refused("feed: BEYOND ahead of FULL", Worlds::fullTape, Due.BEYOND, p -> p.feed('1', 9));
    beyond("text: use, and the tape stays", p -> p.text(2));
    beyond("text: use below", p -> p.text(-1));
    beyond("law: use", p -> p.law(2, 0, 0, 0, 0));
  }

  private static void linesAndLetters() {
    beyond("cross: one", p -> p.cross(3, 0));
    beyond("cross: other", p -> p.cross(0, 3));
    beyond("cross: one twice", p -> p.cross(1, 1));
    beyond("lines: what", p -> p.lines(2));
    beyond("letter: from", p -> p.letter(4, 0, 0, -1));
    beyond("letter: to", p -> p.letter(0, 4, 0, -1));
    beyond("letter: from and to the same", p -> p.letter(2, 2, 0, -1));
    beyond("letter: weight", p -> p.letter(0, 1, 31, -1));
    beyond("letter: an answer to none such", p -> p.letter(0, 1, 0, 4));
    beyond("letter: an answer below -1", p -> p.letter(0, 1, 0, -2));
    refused("letter: a thirteenth", Worlds::twelveLetters, Due.FULL, p -> p.letter(0, 1, 0, 11));
    refused("letter: BEYOND ahead of FULL", Worlds::twelveLetters, Due.BEYOND, p -> p.letter(0, 1, 0, 12));
    beyond("ofLetter: letter", p -> p.ofLetter(4, 0));
    beyond("ofLetter: what", p -> p.ofLetter(0, 7));
  }

  private static void hours() {
    beyond("hours: n 0", p -> p.hours(0));
    beyond("hours: n 73", p -> p.hours(73));
    refused("hours: above 9999", Worlds::lastTime, Due.STATE, p -> p.hours(1));
    refused("hours: BEYOND ahead of STATE", Worlds::lastTime, Due.BEYOND, p -> p.hours(73));
    beyond("loose: n 0", p -> p.loose(0, 5));
    beyond("loose: n 73", p -> p.loose(73, 5));
    beyond("loose: loose -1", p -> p.loose(1, -1));
    beyond("loose: loose 11", p -> p.loose(1, 11));
    refused("loose: above 9999, without a draw", Worlds::lastTime, Due.STATE, p -> p.loose(1, 5));
    refused("loose: BEYOND ahead of STATE", Worlds::lastTime, Due.BEYOND, p -> p.loose(1, 11));
  }

  private static void ways() {
    beyond("then: n", p -> p.then(73, 0));
    beyond("then: what", p -> p.then(3, 2));
    beyond("where: n", p -> p.where(73, 0, 5));
    beyond("where: letter", p -> p.where(3, 4, 5));
    beyond("where: another what", p -> p.where(3, 0, 4));
    beyond("soonest: from", p -> p.soonest(4, 0, 0));
    beyond("soonest: to", p -> p.soonest(0, 4, 0));
    beyond("soonest: one and the same", p -> p.soonest(3, 3, 999));
    beyond("soonest: BEYOND ahead of NONE", p -> p.soonest(3, 0, 1000));
    refused("soonest: not in 72 hours", Worlds::busy, Due.NONE, p -> p.soonest(3, 0, 0));
    beyond("sure: from", p -> p.sure(40, 0, 305, 0));
    beyond("sure: to", p -> p.sure(4, 0, 305, 0));
    beyond("sure: one and the same", p -> p.sure(33, 0, 305, 0));
    beyond("sure: weight", p -> p.sure(1, 1000, 305, 0));
    beyond("sure: n", p -> p.sure(1, 0, 1100, 0));
    beyond("sure: c", p -> p.sure(1, 0, 311, 0));
    beyond("sure: part", p -> p.sure(1, 0, 305, 2));
    beyond("best: kite", p -> p.best(3, 5));
    beyond("best: n", p -> p.best(0, 73));
    beyond("fresh: from", p -> p.fresh(4, 0, 0, 0));
    beyond("fresh: to", p -> p.fresh(0, 4, 0, 0));
    beyond("fresh: one and the same", p -> p.fresh(0, 0, 0, 0));
    beyond("fresh: weight", p -> p.fresh(0, 1, 1000, 0));
    beyond("fresh: what", p -> p.fresh(0, 1, 0, 2));
    refused("fresh: by none", Worlds::busy, Due.NONE, p -> p.fresh(0, 1, 999, 0));
    refused("fresh: 9 hills", Worlds::nineHills, Due.STATE, p -> p.fresh(0, 1, 0, 0));
    refused("fresh: 8 kites", Worlds::eightKites, Due.STATE, p -> p.fresh(0, 1, 0, 0));
    refused("fresh: BEYOND ahead of STATE", Worlds::nineHills, Due.BEYOND, p -> p.fresh(0, 1, 0, 2));
    refused("fresh: STATE ahead of NONE", Worlds::eightKites, Due.STATE, p -> p.fresh(0, 1, 999, 0));
  }

  private static void order() {
    beyond("order: what", p -> p.order(2, 0));
    beyond("order: i", p -> p.order(0, -1));
    beyond("order: BEYOND ahead of NONE", p -> p.order(2, 99));
    refused("order: no such one", Worlds::busy, Due.NONE, p -> p.order(0, p.count(4)));
    refused("order: no such one, mended", Worlds::busy, Due.NONE, p -> p.order(1, p.count(4)));
    refused("before: none", Worlds::busy, Due.NONE, p -> p.before());
  }

  private static void voicesAndTrace() {
    beyond("voice: kite, and the trace stays", p -> p.voice(3, 0, 0));
    beyond("voice: act, and the trace stays", p -> p.voice(0, 4, 0));
    refused("trace: behind its end", Worlds::busy, Due.NONE, p -> p.trace(p.count(8)));
    refused("trace: below 0", Worlds::busy, Due.NONE, p -> p.trace(-1));
  }

  private static void sheets() {
    beyond("sheet: sheet", p -> p.sheet(4, 8, 1));
    beyond("sheet: bits", p -> p.sheet(0, 24, 1));
    beyond("sheet: n 41", p -> p.sheet(0, 8, 41));
    refused("sheet: n -1", Worlds::busy, Due.STATE, p -> p.sheet(0, 8, -1));
    beyond("sheet: BEYOND of the sheet ahead of STATE", p -> p.sheet(4, 8, -1));
    beyond("sheet: BEYOND of bits ahead of STATE", p -> p.sheet(0, 24, -1));
    beyond("sheet: none such, though it would be missing", p -> p.sheet(4, 0, 0));
    beyond("put: sheet", p -> p.put(4, 0, 0));
    refused("put: missing", Worlds::busy, Due.NONE, p -> p.put(3, 0, 0));
    beyond("put: i below", p -> p.put(0, -1, 0));
    beyond("put: i above", p -> p.put(0, 5, 0));
    refused("put: NONE ahead of BEYOND of i", Worlds::busy, Due.NONE, p -> p.put(3, -1, 0));
    beyond("winds: sheet", p -> p.winds(4));
    refused("winds: missing", Worlds::busy, Due.NONE, p -> p.winds(3));
  }

  private static void moves() {
    beyond("move: sheet", p -> p.move(4, 0, 0, 0, 1));
    beyond("move: other", p -> p.move(0, 0, -1, 0, 1));
    refused("move: missing", Worlds::busy, Due.NONE, p -> p.move(3, 0, 0, 0, 1));
    refused("move: other missing", Worlds::busy, Due.NONE, p -> p.move(0, 0, 3, 0, 1));
    refused("move: unlike bits", Worlds::busy, Due.KIND, p -> p.move(1, 0, 2, 0, 1));
    beyond("move: n below", p -> p.move(0, 0, 0, 1, -1));
    beyond("move: i below", p -> p.move(0, -1, 0, 1, 1));
    beyond("move: j below", p -> p.move(0, 1, 0, -1, 1));
    beyond("move: they don't stand there", p -> p.move(0, 2, 0, 0, 4));
    beyond("move: they can't stand there", p -> p.move(0, 0, 0, 2, 4));
    beyond("move: BEYOND of a sheet ahead of NONE", p -> p.move(3, 0, 4, 0, 1));
    refused("move: NONE ahead of KIND", Worlds::busy, Due.NONE, p -> p.move(1, 0, 3, 0, 1));
    refused("move: NONE ahead of BEYOND of n", Worlds::busy, Due.NONE, p -> p.move(3, 0, 3, 0, -1));
    refused("move: KIND ahead of BEYOND of n", Worlds::busy, Due.KIND, p -> p.move(0, 0, 1, 0, -1));
    refused("move: KIND ahead of BEYOND of i", Worlds::busy, Due.KIND, p -> p.move(0, 9, 1, 0, 1));
  }

  private static void imagesAndTold() {
    refused("restore: there is none", KitePost::new, Due.NONE, p -> p.restore());
    refused("tell: 20 wait", Worlds::twentyWait, Due.FULL, p -> p.tell(2));
    beyond("count: what below", p -> p.count(-1));
    beyond("count: what above", p -> p.count(10));
    beyond("told: k 0", p -> p.told(0));
    beyond("told: k 6", p -> p.told(6));
  }

  /** The only ERROR that changes more than what told() tells. */
  private static void checkLeavesNoneWaiting() {
    for (int letter : new int[] {-1, 4, Integer.MIN_VALUE, Integer.MAX_VALUE}) {
      KitePost post = Worlds.busy();
      KitePost twin = Worlds.busy();
      due.is("three wait", post.count(7), 3);
      due.is("check: letter " + letter, post.check(letter), Due.BEYOND);
      due.is("check: none wait then, too", post.count(7), 0);
      due.is("check: counted", post.told(1), twin.told(1) + 1);
      twin.check(0);
      sameState("check of no letter", post, twin);
    }
  }
}
