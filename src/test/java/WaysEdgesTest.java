/** The edges of Terms 3 that promises 21 to 28 show: hours ahead, ways, how sure, best aims, new hills, the order. */
public final class WaysEdgesTest {
  private static final Due due = new Due();

  public static void main(String[] args) {
    aheadByNoneAndBySeventyTwo();
    aheadBeyondTheLastTime();
    aheadOldOnesGrowWeak();
    soonestFromOneToSeventyTwo();
    soonestOfAllKites();
    soonestBeyondTheLastTime();
    sureOfOneHillInTenHours();
    sureOfEightHills();
    sureByPlacesOfFt();
    sureBeyondTheLastTime();
    bestOfNone();
    bestOfTheLastHill();
    bestIsNoAim();
    bestOnlyOfHills();
    bestInTheSeventySecondHour();
    freshPlaces();
    freshHeightAndWeight();
    freshLastHillAndKite();
    freshHours();
    orderOfTwelve();
    askingChangesNothing();
    due.end();
  }

  private static int xy(int x, int y) {
    return Worlds.xy(x, y);
  }

  /** No force but in some hours: wind to x more, of force 3. */
  private static void onlyIn(KitePost post, int... hours) {
    for (int hour = 0; hour < 24; hour++) {
      post.wind(hour, 0);
    }
    for (int hour : hours) {
      post.wind(hour, 3);
    }
  }

  /** Nine hills side by side, each but the last with a kite of LINE 1: eight hours from the first to the last. */
  private static KitePost nineInARow() {
    KitePost post = Worlds.hills(0, 16, 32, 48, 64, 80, 96, 112, 128);
    for (int i = 0; i < 8; i++) {
      post.kite(0, i, 4001);
      post.aim(i, i + 1);
    }
    return post;
  }

  /** A line from hill 0 to 1 that crosses one of more LIFT from hill 2 to 3. */
  private static KitePost firstIsDown() {
    KitePost post = Worlds.hills(xy(0, 0), xy(4, 4), xy(0, 4), xy(4, 0));
    post.aim(post.kite(0, 0, 1040), 1);
    post.aim(post.kite(0, 2, 2040), 3);
    return post;
  }

  private static void aheadByNoneAndBySeventyTwo() {
    KitePost post = Worlds.chain(4, 4);
    onlyIn(post, 0);
    post.letter(0, 3, 6, -1);
    post.letter(0, 1, 3, -1);
    post.hours(1);
    due.is("by none: what has arrived", post.then(0, 0), 1);
    due.is("by none: what is paid", post.then(0, 1), 4);
    due.is("by none: where it is", post.where(0, 0, 5), 1);
    due.is("by none: it hasn't arrived", post.where(0, 0, 6), -1);
    due.is("by none: the other has", post.where(0, 1, 6), 1);
    int[] n = {23, 24, 47, 48, 71, 72};
    int[] on = {1, 2, 2, 3, 3, 3};
    for (int i = 0; i < n.length; i++) {
      due.is("where by " + n[i], post.where(n[i], 0, 5), on[i]);
      due.is("arrived by " + n[i], post.then(n[i], 0), on[i] == 3 ? 2 : 1);
      due.is("paid by " + n[i], post.then(n[i], 1), on[i] == 3 ? 11 : 4);
    }
    KitePost first = Worlds.chain(4, 4);
    onlyIn(first, 23);
    first.letter(0, 3, 6, -1);
    due.is("71 hours: on the last but one", first.where(71, 0, 5), 2);
    due.is("71 hours: not arrived", first.then(71, 0) + first.then(71, 1), 0);
    due.is("72 hours: arrived", first.then(72, 0), 1);
    due.is("72 hours: paid", first.then(72, 1), 7);
    due.is("72 hours: when", first.where(72, 0, 6), 72);
  }

  private static void aheadBeyondTheLastTime() {
    KitePost post = Worlds.chain(3, 4);
    onlyIn(post, 16, 15);
    Due.read(post, 1, "h");
    Worlds.until(post, 9999);
    post.letter(0, 2, 0, -1);
    due.is("hours can't go by", post.hours(1), Due.STATE);
    due.is("as if one did: 9999 is hour 15", post.where(1, 0, 5), 1);
    due.is("10000 is hour 16", post.where(2, 0, 6), 10001);
    due.is("it took two", post.then(2, 1), 2);
    due.is("by 72", post.then(72, 0), 1);
    due.is("NOW stays", post.count(0), 9999);
    due.is("numbers that wait", post.tell(1) + post.tell(2) + post.tell(2), 6);
    due.is("are checked beyond it, too", post.check(0), 0);
    due.is("the best aim beyond it", post.best(1, 2), 2);
    due.is("not by one hour", post.best(1, 1), -1);
  }

  private static void aheadOldOnesGrowWeak() {
    KitePost post = new KitePost();
    post.hill(xy(0, 0), 0);
    post.hill(xy(1, 0), 0);
    post.kite(69, 0, 240); // 2 and 6 and 9: a pull of 17 on the first day
    post.aim(0, 1);
    post.aim(0, -1);
    post.letter(0, 1, 16, -1);
    post.hours(47);
    post.aim(0, 1);
    due.is("a pull of 16 on the second day", post.pull(0, 1, 0), 16);
    due.is("its last hour", post.then(1, 0), 1);
    onlyIn(post, 0);
    due.is("on the third it is too weak", post.then(72, 0), 0);
    due.is("soonest, too", post.soonest(0, 1, 16), Due.NONE);
    due.is("with one less, in the second hour", post.soonest(0, 1, 15), 2);
    due.is("sure of it", post.sure(1, 15, 200, 0), 1);
    due.is("not of the heavier", post.sure(1, 16, 200, 0), 0);
  }

  private static void soonestFromOneToSeventyTwo() {
    KitePost post = Worlds.chain(4, 4);
    onlyIn(post, 0);
    due.is("at once", post.soonest(0, 1, 0), 1);
    due.is("a day later", post.soonest(0, 2, 0), 25);
    due.is("two days later", post.soonest(0, 3, 0), 49);
    post.hours(1);
    due.is("72", post.soonest(0, 3, 0), 72);
    due.is("48", post.soonest(0, 2, 0), 48);
    post.hill(xy(14, 0), 0);
    post.kite(0, 3, 4002);
    due.is("96 are too many", post.soonest(0, 4, 0), Due.NONE);
    post.hours(23);
    due.is("73 are too many", post.soonest(0, 4, 0), Due.NONE);
    post.wind(23, 3);
    due.is("with one hour more a day: 0, 23, 24, 47", post.soonest(0, 4, 0), 48);
    due.is("against the wind", post.soonest(1, 0, 0), Due.NONE);

    KitePost last = Worlds.chain(4, 4);
    onlyIn(last, 23);
    due.is("72, by hour 23", last.soonest(0, 3, 0), 72);
    onlyIn(last, 23, 22);
    due.is("22, 23, 46", last.soonest(0, 3, 0), 47);
  }

  private static void soonestOfAllKites() {
    KitePost post = nineInARow();
    due.is("from the first to the last", post.soonest(0, 8, 0), 8);
    due.is("from the last there is no kite", post.soonest(8, 7, 0), Due.NONE);
    due.is("the most that they lift", post.soonest(0, 8, 46), 8);
    due.is("one more", post.soonest(0, 8, 47), Due.NONE);
    for (int i = 0; i < 8; i++) {
      post.aim(i, -1);
    }
    due.is("whatever they are aimed at", post.soonest(0, 8, 0), 8);
    due.is("the greatest weight", post.soonest(0, 8, 999), Due.NONE);
    Due.read(post, 0, "999");
    due.is("with a law of 99", post.soonest(0, 8, 145), 8);
    due.is("one more than that", post.soonest(0, 8, 146), Due.NONE);

    KitePost down = firstIsDown();
    due.is("it is DOWN", down.lines(1), 1);
    due.is("but it STANDS, so it would go all the same", down.soonest(0, 1, 0), 1);
    due.is("as sure as that", down.sure(1, 0, 100, 0), 1);
  }

  private static void soonestBeyondTheLastTime() {
    KitePost post = Worlds.chain(2, 4);
    onlyIn(post, 14);
    Worlds.until(post, 9999); // hour 15
    due.is("hour 14 comes again in 24 hours", post.soonest(0, 1, 0), 24);
    onlyIn(post, 15);
    due.is("this hour", post.soonest(0, 1, 0), 1);
    onlyIn(post, 16);
    due.is("the next", post.soonest(0, 1, 0), 2);
    due.is("fresh, too", post.fresh(0, 1, 0, 1), 2);
  }

  private static void sureIs(String what, KitePost post, int ft, int nc, long above, long below) {
    due.is(what + ", above", post.sure(ft, 0, nc, 0), above);
    due.is(what + ", below", post.sure(ft, 0, nc, 1), below);
  }

  private static void sureOfOneHillInTenHours() {
    KitePost post = Worlds.chain(2, 4);
    sureIs("no hours", post, 1, 0, 0, 1);
    sureIs("no hours, c 10", post, 1, 10, 0, 1);
    sureIs("one hour, c 0", post, 1, 100, 1, 1);
    sureIs("one hour, c 10", post, 1, 110, 0, 1);
    // not all of ten hours are calm: 1 less c tenths to the tenth
    long[][] tens = {
      {1, 1}, {9999999999L, 10000000000L}, {9765624, 9765625}, {9999940951L, 10000000000L}, {9764601, 9765625},
      {1023, 1024}, {9706576, 9765625}, {9717524751L, 10000000000L}, {8717049, 9765625},
      {6513215599L, 10000000000L}, {0, 1}
    };
    for (int c = 0; c <= 10; c++) {
      sureIs("ten hours, c " + c, post, 1, 1000 + c, tens[c][0], tens[c][1]);
    }
    onlyIn(post, 9);
    sureIs("only in the tenth hour", post, 1, 1003, 7, 10);
    sureIs("nine hours aren't enough", post, 1, 903, 0, 1);
    onlyIn(post, 10);
    sureIs("in the eleventh", post, 1, 1000, 0, 1);
  }

  private static void sureOfEightHills() {
    KitePost post = nineInARow();
    sureIs("seven hours aren't enough", post, 8, 700, 0, 1);
    sureIs("eight are just enough", post, 8, 800, 1, 1);
    sureIs("none of eight is calm", post, 8, 805, 1, 256);
    sureIs("one of nine may be: 10 by 512", post, 8, 905, 5, 256);
    sureIs("two of ten may be: 56 by 1024", post, 8, 1005, 7, 128);
    sureIs("all of ten are", post, 8, 1010, 0, 1);
  }

  private static void sureByPlacesOfFt() {
    KitePost post = nineInARow();
    for (int from = 0; from < 9; from++) {
      for (int to = 0; to < 9; to++) {
        int ft = 10 * from + to;
        if (from == to) {
          due.is("one and the same " + ft, post.sure(ft, 0, 1000, 0), Due.BEYOND);
        } else {
          due.is("in as many hours " + ft, post.sure(ft, 0, 100 * Math.abs(to - from), 0), to > from ? 1 : 0);
          due.is("in one less " + ft, post.sure(ft, 0, 100 * Math.abs(to - from) - 100, 0), 0);
        }
      }
      due.is("there is no hill 9 to go to", post.sure(10 * from + 9, 0, 100, 0), Due.BEYOND);
      due.is("nor to go from", post.sure(90 + from, 0, 100, 0), Due.BEYOND);
    }
  }

  private static void sureBeyondTheLastTime() {
    KitePost post = Worlds.chain(3, 4);
    onlyIn(post, 15, 0);
    Worlds.until(post, 9999); // hour 15; hour 0 is the tenth from it on
    sureIs("two hills in ten hours", post, 2, 1005, 1, 4);
    sureIs("in nine", post, 2, 905, 0, 1);
  }

  private static void bestOfNone() {
    KitePost post = new KitePost();
    post.hill(0, 0);
    post.kite(0, 0, 4040);
    due.is("its home is the only hill", post.best(0, 72), -1);
    post.hill(1, 0);
    due.is("no letters", post.best(0, 72), -1);
    post.wind(0, 23);
    post.letter(0, 1, 0, -1);
    due.is("in no hours", post.best(0, 0), -1);
    due.is("in one", post.best(0, 1), 1);
    post.aim(0, 1);
    post.hours(1);
    due.is("what has arrived has by any aim", post.best(0, 72), -1);
  }

  private static void bestOfTheLastHill() {
    KitePost post = nineInARow();
    for (int i = 0; i < 8; i++) {
      post.aim(i, -1);
    }
    for (int to = 8; to >= 1; to--) {
      post.letter(to - 1, to, 0, -1);
    }
    due.is("the eighth kite, the ninth hill", post.best(7, 1), 8);
    due.is("the first kite", post.best(0, 1), 1);
    due.is("aims stay", post.ofKite(7, 5), -1);
    post.letter(1, 0, 0, -1);
    post.letter(1, 0, 0, -1);
    post.wind(0, 43);
    due.is("hill 0, by more letters", post.best(1, 1), 0);
    post.wind(1, 3);
    due.is("hill 0 still, by two against one", post.best(1, 2), 0);
  }

  /** Without its line the kite of less LIFT isn't DOWN. */
  private static void bestIsNoAim() {
    KitePost post = firstIsDown();
    post.letter(0, 1, 0, -1);
    due.is("none arrives as it is", post.then(72, 0), 0);
    due.is("no aim is best, and the least", post.best(1, 72), -1);
    post.letter(2, 3, 0, -1);
    due.is("as many by each: the least", post.best(1, 72), -1);
    post.letter(2, 3, 0, -1);
    due.is("more by its aim", post.best(1, 72), 3);
    due.is("it helps the other one nothing", post.best(0, 72), -1);
  }

  /**
   * The first kite takes the letter the wrong way, unless a line from hill 0 down to (0, 0) crosses its own: but there
   * is no hill. Hill 3 is too high for the third kite.
   */
  private static void bestOnlyOfHills() {
    KitePost post = Worlds.hills(xy(8, 4), xy(4, 6), xy(4, 1));
    post.hill(xy(2, 6), 9);
    post.wind(0, 53);
    post.aim(post.kite(0, 1, 40), 2);
    post.aim(post.kite(0, 1, 9940), 3);
    post.kite(0, 0, 1040);
    post.letter(1, 3, 0, -1);
    due.is("no hill helps", post.best(2, 1), -1);
    due.is("a hill at 0", post.hill(0, 0), 4);
    due.is("helps", post.best(2, 1), 4);
  }

  private static void bestInTheSeventySecondHour() {
    KitePost post = Worlds.chain(4, 4);
    onlyIn(post, 23);
    post.letter(0, 3, 0, -1);
    due.is("in 71 hours nothing arrives", post.best(2, 71), -1);
    due.is("in 72 it does", post.best(2, 72), 3);
  }

  /** Hill 0 with a kite of LINE 1, that can only go to the place beside it down the wind; hill 1 to go to then. */
  private static KitePost besideOnly(int x, int y, int dir, int toX, int toY, int toDir) {
    KitePost post = new KitePost();
    post.hill(xy(x, y), 0);
    post.hill(xy(toX, toY), 0);
    post.kite(0, 0, 4001);
    for (int hour = 0; hour < 24; hour++) {
      post.wind(hour, 0);
    }
    post.wind(0, 10 * dir + 3);
    post.wind(1, 10 * toDir + 3);
    return post;
  }

  private static void freshPlaces() {
    KitePost last = besideOnly(15, 14, 4, 12, 13, 4);
    due.is("the last place, 14 and 14", last.fresh(0, 1, 0, 0), 238);
    due.is("in two hours", last.fresh(0, 1, 0, 1), 2);
    due.is("none where a hill stands", last.hill(238, 0) + last.fresh(0, 1, 0, 0), 2 + Due.NONE);
    KitePost first = besideOnly(1, 0, 4, 5, 5, 2);
    due.is("the first place, 0 and 0", first.fresh(0, 1, 0, 0), 0);
    due.is("there, too, none where a hill stands", first.hill(0, 0) + first.fresh(0, 1, 0, 0), 2 + Due.NONE);
    due.is("0 and 14", besideOnly(0, 13, 2, 5, 5, 0).fresh(0, 1, 0, 0), 14);
    due.is("14 and 0", besideOnly(13, 0, 0, 5, 5, 4).fresh(0, 1, 0, 0), 224);
    due.is("x 16 is no place", besideOnly(15, 0, 0, 5, 5, 2).fresh(0, 1, 0, 0), Due.NONE);
    due.is("y 16 is no place", besideOnly(0, 15, 2, 5, 5, 0).fresh(0, 1, 0, 0), Due.NONE);
    due.is("x 15 is no place", besideOnly(14, 0, 0, 5, 5, 4).fresh(0, 1, 0, 0), Due.NONE);
    due.is("an odd y is none", besideOnly(4, 4, 2, 9, 9, 0).fresh(0, 1, 0, 0), Due.NONE);
    due.is("below 0 is none", besideOnly(0, 0, 4, 5, 5, 0).fresh(0, 1, 0, 0), Due.NONE);
    due.is("a LINE of 20 is just enough", besideOnly(1, 0, 4, 11, 9, 2).fresh(0, 1, 0, 0), 0);
    due.is("21 is too far", besideOnly(1, 0, 4, 11, 10, 2).fresh(0, 1, 0, 0), Due.NONE);

    KitePost odd = new KitePost();
    odd.hill(xy(3, 3), 0);
    odd.hill(xy(5, 3), 0);
    odd.kite(0, 0, 4040);
    due.is("of all places the least, 0", odd.fresh(0, 1, 0, 0), 0);
    odd.hill(0, 0);
    due.is("where none stands, 2", odd.fresh(0, 1, 0, 0), 2);
    odd.hill(2, 0);
    due.is("4", odd.fresh(0, 1, 0, 0), 4);
    due.is("back is none", odd.fresh(1, 0, 0, 0), Due.NONE);
  }

  private static void freshHeightAndWeight() {
    KitePost post = new KitePost();
    post.hill(xy(1, 0), 9);
    post.hill(xy(5, 5), 9);
    post.kite(0, 0, 4001);
    post.wind(0, 43);
    due.is("from height 9 to 0, then up to 9: 40 and 6 less 27", post.fresh(0, 1, 19, 1), 2);
    due.is("one heavier", post.fresh(0, 1, 20, 1), Due.NONE);
    Due.read(post, 0, "k*9+1");
    due.is("by the law of KIND 0", post.fresh(0, 1, 20, 1), 2);
    due.is("not of another", post.fresh(0, 1, 21, 1), Due.NONE);
    due.is("no height, no kite came", post.count(1) * 10 + post.count(2), 21);
  }

  private static void freshLastHillAndKite() {
    KitePost post = besideOnly(1, 0, 4, 5, 5, 0);
    for (int i = 2; i < 8; i++) {
      post.hill(xy(15, 2 * i - 3), 0);
      post.kite(0, i, 101);
    }
    due.is("8 hills, 7 kites", post.count(1) * 10 + post.count(2), 87);
    due.is("a ninth hill, an eighth kite", post.fresh(0, 1, 0, 0), 0);
    due.is("to the eighth hill", post.fresh(0, 7, 0, 1), Due.NONE);
    post.image();
    post.kite(0, 7, 101);
    due.is("8 kites", post.fresh(0, 1, 0, 0), Due.STATE);
    post.restore();
    due.is("7 again", post.fresh(0, 1, 0, 0), 0);
    post.hill(xy(14, 15), 0);
    due.is("9 hills", post.fresh(0, 1, 0, 0), Due.STATE);
    due.is("9 hills, to the ninth", post.fresh(0, 8, 0, 0), Due.STATE);
    due.is("9 hills, none such", post.fresh(0, 9, 0, 0), Due.BEYOND);
  }

  /** Hills 4 apart, the last of them without a kite; hill over which only a kite from the next place could stand. */
  private static KitePost gapBehind(int hills, int last) {
    KitePost post = Worlds.chain(hills, 4);
    Due.read(post, 0, "0-99*(d>4)");
    post.kite(0, hills - 1, 4004);
    post.hill(last, 0);
    return post;
  }

  private static void freshHours() {
    KitePost three = gapBehind(2, xy(12, 0));
    onlyIn(three, 23);
    due.is("without it there is no way", three.soonest(0, 2, 0), Due.NONE);
    due.is("in the 72nd hour", three.fresh(0, 2, 0, 1), 72);
    due.is("by the only place", three.fresh(0, 2, 0, 0), xy(8, 0));
    onlyIn(three, 0);
    due.is("in the 49th", three.fresh(0, 2, 0, 1), 49);
    three.hours(1);
    due.is("in the 72nd again", three.fresh(0, 2, 0, 1), 72);

    KitePost four = gapBehind(3, xy(15, 1));
    onlyIn(four, 0);
    due.is("in the 73rd", four.fresh(0, 3, 0, 1), Due.NONE);
    onlyIn(four, 0, 23);
    due.is("1, 24, 25, 48", four.fresh(0, 3, 0, 1), 48);
    due.is("by the only place", four.fresh(0, 3, 0, 0), xy(12, 0));
  }

  /**
   * By this law a kite of LIFT 0 takes what weighs as much as the FORCE is, or nothing: letter 8 with FORCE 1, 7 with
   * 2 .. 0 with 9, and with the first of them 9, 10, 11, which weigh nothing.
   */
  private static void orderOfTwelve() {
    KitePost post = new KitePost();
    post.hill(xy(0, 0), 0);
    post.hill(xy(1, 0), 0);
    post.aim(post.kite(0, 0, 1), 1);
    due.is("the law", Due.read(post, 0, "(l=f|l=0)*99-99"), 1);
    for (int i = 0; i < 12; i++) {
      post.letter(0, 1, Math.max(0, 9 - i), i - 1);
    }
    for (int hour = 0; hour < 9; hour++) {
      post.wind(hour, 1 + hour);
    }
    due.is("none yet", post.order(0, 0), Due.NONE);
    due.is("none yet, mended", post.order(1, 0), Due.NONE);
    due.is("none early yet", post.before(), Due.NONE);
    post.hours(1);
    for (int i = 0; i < 4; i++) {
      due.is("first " + i, post.order(0, i), 8 + i);
      due.is("mended the same while 7 hasn't arrived " + i, post.order(1, i), 8 + i);
    }
    due.is("no fifth", post.order(0, 4), Due.NONE);
    due.is("no fifth, mended", post.order(1, 4), Due.NONE);
    due.is("8, while 7 hasn't arrived", post.before(), 8);
    post.hours(8);
    int[] want = {8, 9, 10, 11, 7, 6, 5, 4, 3, 2, 1, 0};
    for (int i = 0; i < 12; i++) {
      due.is("as they arrived " + i, post.order(0, i), want[i]);
      due.is("mended " + i, post.order(1, i), i);
    }
    due.is("no thirteenth", post.order(0, 12), Due.NONE);
    due.is("no thirteenth, mended", post.order(1, 12), Due.NONE);
    due.is("nor a last of all ints", post.order(1, Integer.MAX_VALUE), Due.NONE);
    due.is("8 is early still", post.before(), 8);
  }

  private static void askingChangesNothing() {
    KitePost post = Worlds.busy();
    post.then(72, 0);
    post.where(72, 1, 6);
    post.soonest(0, 2, 0);
    post.sure(2, 0, 1003, 1);
    post.best(1, 72);
    post.fresh(0, 3, 0, 1);
    post.order(1, 0);
    post.over(2, 5, 0);
    post.lines(1);
    post.cross(0, 1);
    due.holds("all is as it was", Probe.of(post).equals(Probe.of(Worlds.busy())));
  }
}
