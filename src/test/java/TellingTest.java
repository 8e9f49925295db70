/** Promises 29 to 41: draws, voices, sheets, images, what is told. */
public final class TellingTest {
  private static final Due due = new Due();

  public static void main(String[] args) {
    seeds();
    voices();
    voiceErrors();
    sheets();
    put();
    move();
    winds();
    images();
    imagesKeepAll();
    imagesLeaveOut();
    waiting();
    check();
    counts();
    told();
    due.end();
  }

  private static KitePost aChain() {
    return Worlds.chain(3, 4);
  }

  private static void seeds() {
    KitePost post = new KitePost();
    due.is("1 at first", post.seed(-1000000001), 1);
    due.is("any number, no error", post.seed(Integer.MIN_VALUE), -1000000001);
    due.is("by count, too", post.count(9), Integer.MIN_VALUE);
    due.is("nothing told", post.told(1), 0);
  }

  private static void said(KitePost post, int kite, int act, int x, int want, int... bodies) {
    String what = "kite " + kite + " act " + act + " x " + x;
    due.is(what, post.voice(kite, act, x), want);
    due.is(what + ": how many bodies", post.count(8), bodies.length);
    for (int i = 0; i < bodies.length; i++) {
      due.is(what + ": body " + i, post.trace(i), bodies[i]);
    }
    due.is(what + ": no more", post.trace(bodies.length), Due.NONE);
  }

  private static void voices() {
    KitePost post = Worlds.oneOfEach(3);
    said(post, 0, 0, 5, 5, 10);
    said(post, 0, 1, 5, 10, 11, 10);
    said(post, 0, 2, 5, 2, 12);
    said(post, 0, 3, 5, 10 ^ 2, 13, 11, 10, 12);
    said(post, 1, 0, 5, 6, 10);
    said(post, 1, 1, 5, 12 - -2, 20, 11, 10, 12);
    said(post, 1, 3, 5, 14 ^ 2, 13, 20, 11, 10, 12, 12);
    said(post, 2, 0, 5, 21, 30, 10);
    said(post, 2, 1, 5, 42, 11, 30, 10);
    said(post, 2, 3, 5, 42 ^ 2, 13, 11, 30, 10, 12);
    said(post, 3, 2, 5, -2, 40, 12);
    said(post, 3, 3, 5, 16 ^ -2, 13, 11, 10, 40, 12);
    // DOUBLE: sways(6) of BOXED: (6 + 4) * 2 less sinks(1), which is -2
    said(post, 4, 1, 5, 22, 50, 20, 11, 10, 12);
    said(post, 4, 3, 5, 22 ^ 2, 13, 50, 20, 11, 10, 12, 12);
    // LONG: tells of KITE: sways is lifts * 2 = 10 * 3 * 2, ^ 2; less lifts(2), 7 * 3
    said(post, 5, 3, 5, (60 ^ 2) - 21, 60, 13, 11, 30, 10, 12, 30, 10);
    said(post, 6, 2, 5, -2 ^ 6, 70, 40, 12);
    said(post, 6, 3, 5, 22 - (22 ^ -2 ^ 6), 71, 11, 10, 13, 11, 10, 70, 40, 12);
    said(post, 0, 1, Integer.MAX_VALUE, -2, 11, 10);
    said(post, 0, 2, Integer.MIN_VALUE, Integer.MAX_VALUE - 2, 12);
    said(post, 0, 0, -1000000002, -1000000002, 10);
    due.is("which is no error", post.told(2), 20);
  }

  private static void voiceErrors() {
    KitePost post = Worlds.oneOfEach(0);
    post.voice(0, 1, 1);
    due.is("act below", post.voice(0, -1, 0), Due.BEYOND);
    due.is("act above", post.voice(0, 4, 0), Due.BEYOND);
    due.is("kite below", post.voice(-1, 0, 0), Due.BEYOND);
    due.is("kite above", post.voice(7, 0, 0), Due.BEYOND);
    due.is("the trace stays by errors", post.trace(1), 10);
    due.is("below the trace", post.trace(-1), Due.NONE);
    due.is("far above", post.trace(Integer.MAX_VALUE), Due.NONE);
    due.is("just above", post.trace(2), Due.NONE);
  }

  private static void sheets() {
    KitePost post = new KitePost();
    due.is("sheet below", post.sheet(-1, 8, 1), Due.BEYOND);
    due.is("sheet above", post.sheet(4, 8, 1), Due.BEYOND);
    due.is("bits 1", post.sheet(0, 1, 1), Due.BEYOND);
    due.is("bits 64", post.sheet(0, 64, 1), Due.BEYOND);
    due.is("bits below", post.sheet(0, -8, 1), Due.BEYOND);
    due.is("n below", post.sheet(0, 8, -1), Due.STATE);
    due.is("n far below", post.sheet(0, 32, Integer.MIN_VALUE), Due.STATE);
    due.is("n above", post.sheet(0, 8, 41), Due.BEYOND);
    due.is("BEYOND of a sheet ahead of STATE", post.sheet(4, 8, -1), Due.BEYOND);
    due.is("BEYOND of bits ahead of STATE", post.sheet(0, 9, -1), Due.BEYOND);
    due.is("still missing", post.put(0, 0, 0), Due.NONE);
    due.is("40 numbers", post.sheet(0, 16, 40), 1);
    due.is("the last", post.put(0, 39, 1), 1);
    due.is("0 numbers", post.sheet(3, 32, 0), 1);
    due.is("there, but without a number", post.put(3, 0, 1), Due.BEYOND);
    due.is("no wind comes from it", post.winds(3), 0);
    due.is("missing, n doesn't matter", post.sheet(0, 0, -5), 1);
    due.is("missing again", post.put(0, 39, 1), Due.NONE);
    due.is("missing, n above", post.sheet(0, 0, 99), 1);
    post.sheet(1, 8, 2);
    post.put(1, 0, 79);
    post.sheet(1, 8, 2);
    post.winds(1);
    due.is("all 0 anew", post.wind(0, 3), 0);
  }

  private static void put() {
    KitePost post = new KitePost();
    due.is("no such sheet", post.put(4, 0, 0), Due.BEYOND);
    due.is("no such sheet, below", post.put(-1, 0, 0), Due.BEYOND);
    due.is("missing", post.put(0, 0, 0), Due.NONE);
    due.is("NONE ahead of BEYOND of a number", post.put(0, -1, 0), Due.NONE);
    post.sheet(0, 8, 3);
    due.is("number below", post.put(0, -1, 0), Due.BEYOND);
    due.is("number above", post.put(0, 3, 0), Due.BEYOND);
    due.is("lowest 8 bits", post.put(0, 0, 0x7b00 + 21), 1);
    due.is("lowest 8 bits of one below 0", post.put(0, 1, -256 + 22), 1);
    due.is("-1 is none", post.put(0, 2, -1), 1);
    due.is("two come", post.winds(0), 2);
    due.is("the first", post.wind(0, 0), 21);
    due.is("the second", post.wind(1, 0), 22);
    post.sheet(1, 16, 2);
    post.put(1, 0, 0x10000 + 23);
    post.put(1, 1, 256 + 24);
    due.is("lowest 16 bits", post.winds(1), 1);
    due.is("of the first", post.wind(0, 0), 23);
    post.sheet(2, 32, 2);
    post.put(2, 0, 25);
    post.put(2, 1, 0x10000 + 26);
    due.is("all 32 bits", post.winds(2), 1);
    due.is("of its first", post.wind(0, 0), 25);
  }

  /** The numbers of a sheet up to n, as the wind has them then. */
  private static void numbersAre(String what, KitePost post, int sheet, int... want) {
    due.is(what + ": how many", post.winds(sheet), want.length);
    for (int i = 0; i < want.length; i++) {
      due.is(what + ": number " + i, post.wind(i, 0), want[i]);
    }
  }

  private static void move() {
    KitePost post = new KitePost();
    post.sheet(0, 8, 5);
    post.sheet(1, 16, 5);
    post.sheet(2, 8, 3);
    for (int i = 0; i < 5; i++) {
      post.put(0, i, 10 + i);
    }
    due.is("no such sheet", post.move(4, 0, 0, 0, 1), Due.BEYOND);
    due.is("no such other", post.move(0, 0, -1, 0, 1), Due.BEYOND);
    due.is("missing", post.move(3, 0, 0, 0, 1), Due.NONE);
    due.is("other missing", post.move(0, 0, 3, 0, 1), Due.NONE);
    due.is("BEYOND ahead of NONE", post.move(3, 0, 4, 0, 1), Due.BEYOND);
    due.is("unlike bits", post.move(0, 0, 1, 0, 1), Due.KIND);
    due.is("NONE ahead of KIND", post.move(1, 0, 3, 0, -1), Due.NONE);
    due.is("KIND ahead of BEYOND of n", post.move(0, 0, 1, 0, -1), Due.KIND);
    due.is("n below", post.move(0, 0, 2, 0, -1), Due.BEYOND);
    due.is("i below", post.move(0, -1, 2, 0, 1), Due.BEYOND);
    due.is("j below", post.move(0, 0, 2, -1, 1), Due.BEYOND);
    due.is("they don't stand there", post.move(0, 3, 2, 0, 3), Due.BEYOND);
    due.is("nor there", post.move(0, 0, 2, 1, 3), Due.BEYOND);
    due.is("i and n go round", post.move(0, Integer.MAX_VALUE, 0, 0, Integer.MAX_VALUE), Due.BEYOND);
    due.is("j and n go round", post.move(0, 1, 0, Integer.MAX_VALUE, 1), Due.BEYOND);
    numbersAre("nothing moved by errors", post, 2, 0, 0, 0);
    due.is("three", post.move(0, 2, 2, 0, 3), 3);
    numbersAre("they came", post, 2, 12, 13, 14);
    due.is("none", post.move(0, 5, 2, 3, 0), 0);
    due.is("none from beyond the end", post.move(0, 6, 2, 3, 0), Due.BEYOND);
    due.is("up, in itself", post.move(0, 0, 0, 1, 4), 4);
    numbersAre("as they all were", post, 0, 10, 10, 11, 12, 13);
    due.is("down, in itself", post.move(0, 1, 0, 0, 4), 4);
    numbersAre("as they all were, too", post, 0, 10, 11, 12, 13, 13);
  }

  private static void winds() {
    KitePost post = new KitePost();
    due.is("no such sheet", post.winds(4), Due.BEYOND);
    due.is("no such sheet, below", post.winds(-1), Due.BEYOND);
    due.is("missing", post.winds(0), Due.NONE);
    post.sheet(0, 32, 40);
    for (int i = 0; i < 40; i++) {
      post.put(0, i, 79 - i);
    }
    due.is("24 at most", post.winds(0), 24);
    due.is("the first", post.wind(0, 3), 79);
    due.is("the last", post.wind(23, 3), 56);
    post.put(0, 2, 80);
    due.is("80 is none", post.winds(0), 2);
    due.is("the second came", post.wind(1, 3), 78);
    due.is("the third stays", post.wind(2, 3), 77);
    post.put(0, 0, -1);
    due.is("-1 is none", post.winds(0), 0);
    due.is("the first stays", post.wind(0, 3), 79);
    post.sheet(1, 8, 3);
    due.is("a short sheet", post.winds(1), 3);
    due.is("its third", post.wind(2, 3), 0);
    due.is("no fourth", post.wind(3, 3), 76);
  }

  private static void images() {
    KitePost post = aChain();
    due.is("none yet", post.restore(), Due.NONE);
    due.is("first", post.image(), 1);
    post.hours(5);
    due.is("NOW", post.restore(), 0);
    post.hours(7);
    due.is("it stays", post.restore(), 0);
    post.hours(3);
    due.is("second, in place of the first", post.image(), 2);
    post.hours(1);
    due.is("NOW of the second", post.restore(), 3);
    due.is("how often isn't restored", post.image(), 3);
  }

  private static void imagesKeepAll() {
    KitePost post = aChain();
    post.letter(0, 1, 3, -1);
    post.letter(0, 2, 0, 0);
    Due.read(post, 0, "7");
    Due.read(post, 1, "8");
    Due.feed(post, "12");
    post.tell(1);
    post.seed(77);
    post.wind(5, 55);
    post.hours(1);
    post.image();

    post.hill(200, 5);
    post.kite(11, 2, 1010);
    post.aim(0, -1);
    post.letter(2, 0, 0, -1);
    Due.read(post, 0, "+9");
    Due.read(post, 0, "9");
    Due.read(post, 1, "10");
    post.tell(2);
    post.seed(78);
    post.wind(5, 0);
    post.hours(2);
    due.is("changed", post.count(4), 2);
    due.is("restored", post.restore(), 1);

    int[] counts = {1, 3, 2, 2, 1, 8, 2, 1, 0, 77};
    for (int what = 0; what < counts.length; what++) {
      due.is("restored count " + what, post.count(what), counts[what]);
    }
    due.is("LIFTS", post.law(0, 0, 0, 0, 0), 7);
    due.is("PAYS", post.law(1, 0, 0, 0, 0), 8);
    due.is("wind", post.wind(5, 3), 55);
    due.is("aim", post.ofKite(0, 5), 1);
    due.is("order", post.order(0, 0), 0);
    due.is("only one arrived", post.order(0, 1), Due.NONE);
    due.is("the other is on its way", post.ofLetter(1, 5), 1);
    due.is("the tape goes on", Due.feed(post, "+1"), 4);
    due.is("and is read", post.text(0), 1);
    due.is("12+1", post.law(0, 0, 0, 0, 0), 13);
    due.is("the numbers that wait", post.check(0), 0);
    due.is("a kite in place of the one that is gone", post.kite(45, 1, 2020), 2);
    due.is("has its own kind", post.as(2, 4), 20);
    post.restore();
    due.is("the image has none of it", post.ofKite(2, 0), Due.BEYOND);
    due.is("nor of the text", post.law(0, 0, 0, 0, 0), 7);
  }

  private static void imagesLeaveOut() {
    KitePost post = aChain();
    post.sheet(0, 8, 1);
    post.put(0, 0, 11);
    post.voice(0, 0, 0);
    post.hill(-1, 0);
    post.image();
    post.put(0, 0, 12);
    post.sheet(1, 8, 1);
    post.voice(0, 3, 0);
    post.hill(-1, 0);
    post.restore();
    due.is("told stays", post.told(1), 2);
    due.is("the trace stays", post.count(8), 4);
    due.is("sheets stay", post.put(1, 0, 0), 1);
    post.winds(0);
    due.is("with their numbers", post.wind(0, 0), 12);
  }

  private static void waiting() {
    KitePost post = new KitePost();
    for (int i = 1; i <= 20; i++) {
      due.is("tell " + i, post.tell(Integer.MIN_VALUE + i), i);
    }
    due.is("20 wait", post.tell(0), Due.FULL);
    due.is("still 20", post.count(7), 20);
    due.is("no letter", post.check(0), Due.BEYOND);
    due.is("none wait then, too", post.count(7), 0);
    due.is("counted", post.told(1), 1);
    due.is("anew", post.tell(5), 1);
  }

  private static void tellAll(KitePost post, int... v) {
    for (int one : v) {
      post.tell(one);
    }
  }

  private static void check() {
    KitePost post = aChain();
    post.letter(0, 2, 0, -1);
    due.is("none wait", post.check(0), 0);
    tellAll(post, 1, 2, 2, 2);
    due.is("all so", post.check(0), 0);
    due.is("none wait then", post.count(7), 0);
    due.is("no hour went by", post.count(0) + post.ofLetter(0, 5), 0);
    tellAll(post, 0, 1, 2);
    due.is("the first isn't", post.check(0), 1);
    due.is("none wait then either", post.count(7), 0);
    tellAll(post, 1, 2, 1, 7);
    due.is("the third isn't", post.check(0), 3);
    tellAll(post, 1);
    due.is("no such letter", post.check(1), Due.BEYOND);
    due.is("none wait", post.check(0), 0);
    tellAll(post, 1, 2, 2, 2, 2, 2, 2, 2, 2, 2, 2, 2, 2, 2, 2, 2, 2, 2, 2, -1);
    due.is("the twentieth isn't", post.check(0), 20);
    tellAll(post, 1);
    due.is("letter below", post.check(-1), Due.BEYOND);
  }

  private static void counts() {
    KitePost post = aChain();
    post.letter(0, 1, 4, -1);
    post.letter(0, 2, 4, -1);
    post.letter(2, 0, 4, -1);
    post.hours(1);
    post.feed(0, 7);
    post.tell(3);
    post.tell(4);
    post.voice(0, 1, 0);
    int[] want = {1, 3, 2, 3, 1, 5, 7, 2, 2, 1};
    for (int what = 0; what < want.length; what++) {
      due.is("count " + what, post.count(what), want[what]);
    }
    due.is("what below", post.count(-1), Due.BEYOND);
    due.is("what above", post.count(10), Due.BEYOND);
  }

  private static void told() {
    KitePost post = aChain();
    post.count(99);
    post.trace(0);
    post.trace(0);
    post.aim(0, 0);
    post.aim(0, 0);
    post.aim(0, 0);
    post.as(0, 1);
    for (int i = 0; i < 21; i++) {
      post.tell(0);
    }
    post.sure(0, 0, 0, 0);
    int[] want = {0, 2, 2, 3, 1, 1};
    for (int k = 1; k <= 5; k++) {
      due.is("told " + k, post.told(k), want[k]);
    }
    due.is("k 0", post.told(0), Due.BEYOND);
    due.is("k 6", post.told(6), Due.BEYOND);
    due.is("k below", post.told(-1), Due.BEYOND);
    due.is("these are counted, too", post.told(1), 5);
  }
}
