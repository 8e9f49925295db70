/** The edges of Terms 3 that promises 15 to 20 show: lines, letters, hours that go by, the last time, loose hours. */
public final class LettersEdgesTest {
  private static final Due due = new Due();

  public static void main(String[] args) {
    lineOrNone();
    crossOfLinesThatAreNone();
    pointsInCommon();
    downByLift();
    downTakesNothing();
    twelveLetters();
    answers();
    weights();
    loadOfAllThatIsTaken();
    oncePerHour();
    arrivals();
    thereAndBack();
    paid();
    theLastTime();
    looseTheLastTime();
    drawsOfAnySign();
    looseFromNeverToAlways();
    due.end();
  }

  private static int xy(int x, int y) {
    return Worlds.xy(x, y);
  }

  private static KitePost hills(int... places) {
    return Worlds.hills(places);
  }

  /** Two ways that cross, from hill 0 to 1 and from hill 2 to 3; no kites yet. */
  private static KitePost twoWays() {
    return hills(xy(0, 0), xy(4, 4), xy(0, 4), xy(4, 0));
  }

  private static void fly(KitePost post, int home, int aim, int lift) {
    post.aim(post.kite(0, home, 100 * lift + 40), aim);
  }

  private static void lineOrNone() {
    KitePost post = hills(xy(0, 0), xy(10, 0));
    due.is("no kite, no line", post.lines(0) + post.lines(1), 0);
    post.kite(0, 0, 10);
    due.is("no aim, no line", post.lines(0), 0);
    post.aim(0, 1);
    due.is("a line as long as it is far", post.lines(0), 1);
    post.kite(0, 0, 9);
    post.aim(1, 1);
    due.is("a line too short by 1", post.lines(0), 1);
    post.wind(0, 0);
    due.is("no force", post.lines(0), 0);
    post.wind(0, 21);
    due.is("beside the wind", post.lines(0), 0);
    post.wind(0, 1);
    Due.read(post, 0, "0-2");
    due.is("a pull of 0", post.lines(0), 1);
    Due.read(post, 0, "0-3");
    due.is("a pull of -1", post.lines(0), 0);
    Due.read(post, 0, "l");
    due.is("with a LOAD of 0", post.lines(0), 1);
    post.aim(0, -1);
    due.is("no aim any more", post.lines(0), 0);
  }

  private static void crossOfLinesThatAreNone() {
    KitePost post = twoWays();
    fly(post, 0, 1, 20);
    fly(post, 2, 3, 10);
    due.is("both have one", post.cross(0, 1), 1);
    due.is("the other way round", post.cross(1, 0), 1);
    post.aim(0, -1);
    due.is("the first has none", post.cross(0, 1), 0);
    due.is("the second has none", post.cross(1, 0), 0);
    due.is("nobody is down then", post.lines(1), 0);
    post.aim(1, -1);
    due.is("neither has one", post.cross(0, 1), 0);
    post.aim(0, 1);
    post.aim(1, 3);
    post.wind(0, 29);
    due.is("only the first stands in this wind", post.lines(0), 1);
    due.is("so they don't cross", post.cross(0, 1) + post.cross(1, 0), 0);
    post.wind(0, 69);
    due.is("only the second in that", post.lines(0), 2);
    due.is("nor then", post.cross(0, 1) + post.cross(1, 0), 0);
  }

  /** A second line against the one from (4, 4) to (8, 4), wind to x more. */
  private static void meets(String what, int x, int y, int toX, int toY, int want) {
    KitePost post = hills(xy(4, 4), xy(8, 4));
    int[] ends = new int[2];
    int[] places = {xy(x, y), xy(toX, toY)};
    for (int i = 0; i < 2; i++) {
      ends[i] = places[i] == xy(4, 4) ? 0 : places[i] == xy(8, 4) ? 1 : post.hill(places[i], 0);
    }
    fly(post, 0, 1, 50);
    fly(post, ends[0], ends[1], 40);
    due.is(what + ": two lines", post.lines(0), 3);
    due.is(what, post.cross(0, 1), want);
    due.is(what + ", turned", post.cross(1, 0), want);
    due.is(what + ": down", post.lines(1), 2 * want);
  }

  private static void pointsInCommon() {
    meets("its aim one short of the home", 2, 4, 3, 4, 0);
    meets("its aim is the home", 2, 4, 4, 4, 0);
    meets("its aim one behind the home", 2, 4, 5, 4, 1);
    meets("its home one ahead of the aim", 7, 4, 12, 4, 1);
    meets("its home is the aim", 8, 4, 12, 4, 0);
    meets("its home one behind the aim", 9, 4, 12, 4, 0);
    meets("home and aim of both", 4, 4, 8, 4, 1);
    meets("its home, and shorter by 1", 4, 4, 7, 4, 1);
    meets("its home, and longer by 1", 4, 4, 9, 4, 1);
    meets("its aim, and shorter by 1", 5, 4, 8, 4, 1);
    meets("its aim, and longer by 1", 3, 4, 8, 4, 1);
    meets("its home, and 1 beside its aim", 4, 4, 8, 5, 0);
    meets("its aim, and 1 beside its home", 4, 5, 8, 4, 0);
    meets("it ends in the middle, from above", 5, 5, 6, 4, 1);
    meets("it ends 1 short of that", 5, 6, 6, 5, 0);
    meets("it begins in the middle", 6, 4, 7, 3, 1);
    meets("it passes by the home, within", 4, 5, 5, 3, 1);
    meets("it passes through the home", 3, 5, 5, 3, 1);
    meets("it passes through the aim", 7, 3, 9, 5, 1);
    meets("it passes by the aim, outside", 8, 5, 9, 3, 0);
    meets("it passes by the home, outside", 3, 5, 4, 3, 0);
    meets("as long as can be, through the home", 0, 0, 15, 15, 1);
    meets("as long as can be, beside the home", 0, 1, 15, 14, 0);
    meets("as long as can be, through its inside", 0, 0, 15, 11, 1);
  }

  private static void downByLift() {
    KitePost post = twoWays();
    fly(post, 0, 1, 30);
    fly(post, 2, 3, 30);
    due.is("of like ones the least number stays", post.lines(1), 0b10);
    fly(post, 2, 3, 31);
    due.is("one more LIFT stays, though its number is the greatest", post.lines(1), 0b011);
    due.is("three lines", post.lines(0), 0b111);
    post.aim(2, -1);
    due.is("without it", post.lines(1), 0b010);

    KitePost ends = twoWays();
    fly(ends, 0, 1, 0);
    fly(ends, 2, 3, 99);
    due.is("LIFT 0 against 99", ends.lines(1), 0b01);

    KitePost like = hills(xy(0, 0), xy(15, 0));
    for (int i = 0; i < 8; i++) {
      fly(like, 0, 1, 7);
    }
    due.is("eight on one way", like.lines(0), 0xff);
    due.is("only the least number stays", like.lines(1), 0xfe);

    // by LIFT, not by PULL: a DOUBLE one pulls more
    KitePost pulls = twoWays();
    pulls.aim(pulls.kite(40, 0, 2940), 1);
    fly(pulls, 2, 3, 30);
    due.is("the DOUBLE one comes down", pulls.lines(1), 0b01);
  }

  private static void downTakesNothing() {
    KitePost post = twoWays();
    fly(post, 0, 1, 10);
    fly(post, 2, 3, 20);
    post.letter(0, 1, 0, -1);
    due.is("an hour", post.hours(1), 1);
    due.is("the other has no letter, but stands", post.ofLetter(0, 5), 0);
    due.is("72 hours", post.hours(72), 73);
    due.is("still DOWN", post.ofLetter(0, 6), -1);
    post.wind(73 % 24, 29);
    due.is("when the other doesn't stand", post.hours(1), 74);
    due.is("it isn't DOWN", post.ofLetter(0, 6), 74);

    KitePost chain = hills(xy(0, 0), xy(8, 0), xy(3, 3), xy(5, 0), xy(3, 1), xy(6, 2));
    fly(chain, 0, 1, 30);
    fly(chain, 2, 3, 20);
    fly(chain, 4, 5, 10);
    due.is("the second crosses the first", chain.cross(0, 1), 1);
    due.is("the third crosses the second", chain.cross(1, 2), 1);
    due.is("but not the first", chain.cross(0, 2), 0);
    due.is("only the second is DOWN: it brings nobody down", chain.lines(1), 0b010);
    chain.letter(2, 3, 0, -1);
    chain.letter(4, 5, 0, -1);
    chain.hours(1);
    due.is("the second takes nothing", chain.ofLetter(0, 5), 2);
    due.is("the third does", chain.ofLetter(1, 6), 1);
    chain.aim(0, -1);
    due.is("without the first the third is DOWN", chain.lines(1), 0b100);
  }

  private static void twelveLetters() {
    KitePost post = Worlds.chain(2, 4);
    for (int i = 0; i < 12; i++) {
      due.is("letter " + i, post.letter(0, 1, 0, i - 1), i);
      due.is("on hill 0", post.ofHill(0, 2), (1 << i + 1) - 1);
    }
    due.is("a thirteenth", post.letter(0, 1, 0, -1), Due.FULL);
    due.is("there is no letter 12", post.ofLetter(12, 0), Due.BEYOND);
    due.is("none has arrived", post.count(4), 0);
    post.hours(1);
    due.is("all twelve at once", post.count(4), 12);
    due.is("none is on a hill any more", post.ofHill(0, 2) + post.ofHill(1, 2), 0);
    for (int i = 0; i < 12; i++) {
      due.is("in order " + i, post.order(0, i), i);
      due.is("at 1 " + i, post.ofLetter(i, 6), 1);
    }
    due.is("no room by arrivals", post.letter(0, 1, 0, -1), Due.FULL);
    due.is("the twelfth is paid for", post.count(5), 12);
  }

  private static void answers() {
    KitePost post = hills(0, 1);
    due.is("to none", post.letter(0, 1, 0, -1), 0);
    due.is("to the only one", post.letter(0, 1, 0, 0), 1);
    due.is("to the latest", post.letter(0, 1, 0, 1), 2);
    due.is("to itself", post.letter(0, 1, 0, 3), Due.BEYOND);
    due.is("to none again", post.letter(0, 1, 0, -1), 3);
    int[] want = {-1, 0, 1, -1};
    for (int i = 0; i < 4; i++) {
      due.is("answer of " + i, post.ofLetter(i, 3), want[i]);
    }
  }

  private static void weights() {
    KitePost post = hills(xy(0, 0), xy(1, 0));
    fly(post, 0, 1, 24); // a pull of 30 with FORCE 3
    post.letter(0, 1, 30, -1);
    post.letter(0, 1, 0, -1);
    post.letter(0, 1, 1, -1);
    post.letter(0, 1, 0, -1);
    post.hours(1);
    due.is("30, and what has no weight", post.ofHill(0, 2), 0b0100);
    due.is("of weight 0", post.ofLetter(1, 2), 0);
    due.is("of weight 30", post.ofLetter(0, 2), 30);

    KitePost weak = hills(xy(0, 0), xy(1, 0));
    fly(weak, 0, 1, 23); // a pull of 29
    weak.letter(0, 1, 30, -1);
    weak.letter(0, 1, 29, -1);
    weak.hours(1);
    due.is("30 is too heavy, 29 isn't", weak.ofHill(0, 2), 0b01);
    weak.hours(72);
    due.is("it stays too heavy", weak.ofLetter(0, 5), 0);
  }

  private static void loadOfAllThatIsTaken() {
    KitePost post = hills(xy(0, 0), xy(1, 0));
    fly(post, 0, 1, 99);
    Due.read(post, 0, "(l>59)*(0-99)");
    for (int i = 0; i < 5; i++) {
      post.letter(0, 1, i == 1 ? 29 : 30, -1);
    }
    post.letter(0, 1, 0, -1);
    post.hours(1);
    due.is("the LOAD of LIFTS is all together: 30 and 29", post.ofHill(0, 2), 0b011100);
    due.is("a third one of 0 goes, too", post.order(0, 2), 5);

    // a law that lifts more by more load: a heavy one can be taken where a light one can't
    KitePost odd = hills(xy(0, 0), xy(1, 0));
    odd.aim(odd.kite(0, 0, 40), 1); // a pull of 6, with FORCE 3
    Due.read(odd, 0, "(l=20)*99");
    odd.letter(0, 1, 7, -1);
    odd.letter(0, 1, 20, -1);
    odd.letter(0, 1, 1, -1);
    odd.hours(1);
    due.is("20 alone", odd.ofHill(0, 2), 0b101);
  }

  private static void oncePerHour() {
    KitePost post = Worlds.chain(4, 4);
    post.letter(0, 3, 0, -1);
    post.letter(1, 3, 0, -1);
    post.letter(2, 3, 0, -1);
    for (int hour = 1; hour <= 3; hour++) {
      post.hours(1);
      for (int letter = 0; letter < 3; letter++) {
        due.is("letter " + letter + " behind " + hour, post.ofLetter(letter, 5), Math.min(3, letter + hour));
      }
    }
    due.is("they arrive from the nearest on", post.order(0, 0) * 100 + post.order(0, 1) * 10 + post.order(0, 2), 210);

    KitePost two = Worlds.chain(3, 8);
    two.kite(0, 0, 3908);
    two.letter(0, 2, 0, -1);
    two.aim(2, 2);
    due.is("the longer line comes down", two.lines(1), 0b100);
    two.hours(1);
    due.is("so it goes by the first kite", two.ofLetter(0, 5), 1);
  }

  private static void arrivals() {
    KitePost post = Worlds.chain(2, 4);
    Worlds.until(post, 9998);
    post.letter(0, 1, 1, -1);
    Due.read(post, 1, "h*100+w");
    due.is("written at 9998", post.ofLetter(0, 4), 9998);
    due.is("not yet", post.ofLetter(0, 6), -1);
    due.is("the last hour", post.hours(1), 9999);
    due.is("arrived at 9999", post.ofLetter(0, 6), 9999);
    due.is("in one hour", post.count(5), 101);
    due.is("written at 9999", post.letter(0, 1, 1, 0), 1);
    due.is("as ofLetter tells", post.ofLetter(1, 4), 9999);
    due.is("no hour is left", post.hours(1), Due.STATE);
    due.is("it stays", post.ofLetter(1, 5), 0);

    KitePost late = Worlds.chain(2, 4);
    late.wind(0, 40);
    late.letter(0, 1, 0, -1);
    Due.read(late, 1, "h");
    late.aim(0, -1);
    late.hours(72);
    late.aim(0, 1);
    late.hours(1);
    due.is("no force in hour 0", late.ofLetter(0, 6), -1);
    late.hours(1);
    due.is("74 hours", late.count(5), 74);
  }

  private static void thereAndBack() {
    KitePost post = hills(xy(0, 0), xy(4, 0), xy(8, 8));
    fly(post, 0, 1, 40);
    fly(post, 1, 0, 40);
    post.letter(0, 2, 0, -1);
    for (int hour = 0; hour < 24; hour++) {
      post.wind(hour, hour % 2 == 0 ? 3 : 43);
    }
    for (int hour = 1; hour <= 5; hour++) {
      post.hours(1);
      due.is("there and back " + hour, post.ofLetter(0, 5), hour % 2);
      due.is("on that hill", post.ofHill(hour % 2, 2), 1);
    }
    due.is("it never arrives", post.then(72, 0), 0);
  }

  private static void paid() {
    for (int[] row : new int[][] {{0, 0}, {1, 12}, {998, 11976}, {999, 11988}, {1000, 11988}, {9999, 11988}}) {
      KitePost post = Worlds.chain(2, 4);
      Due.read(post, 1, String.valueOf(row[0]));
      for (int i = 0; i < 12; i++) {
        post.letter(0, 1, 0, -1);
      }
      due.is("twelve times " + row[0] + ", ahead", post.then(1, 1), row[1]);
      due.is("0 at first", post.count(5), 0);
      post.hours(1);
      due.is("twelve times " + row[0], post.count(5), row[1]);
    }
    KitePost less = Worlds.chain(2, 4);
    Due.read(less, 1, "0-9999");
    less.letter(0, 1, 0, -1);
    less.hours(1);
    due.is("never less than 0", less.count(5), 0);
  }

  private static KitePost at(int time) {
    KitePost post = Worlds.chain(2, 4);
    Worlds.until(post, time);
    post.letter(0, 1, 0, -1);
    return post;
  }

  private static void theLastTime() {
    due.is("9927 and 72", at(9927).hours(72), 9999);
    KitePost post = at(9928);
    due.is("9928 and 72", post.hours(72), Due.STATE);
    due.is("no hour went by", post.count(0), 9928);
    due.is("no letter went", post.ofLetter(0, 5), 0);
    due.is("9928 and 71", post.hours(71), 9999);
    due.is("it went", post.ofLetter(0, 6), 9929);
    due.is("9999 and 1", post.hours(1), Due.STATE);
    due.is("9999 and 72", post.hours(72), Due.STATE);
    due.is("9999 and 73", post.hours(73), Due.BEYOND);
    due.is("9999 and 0", post.hours(0), Due.BEYOND);
    due.is("9998 and 2", at(9998).hours(2), Due.STATE);
    due.is("9998 and 1", at(9998).hours(1), 9999);
  }

  private static void looseTheLastTime() {
    due.is("9927 and 72", at(9927).loose(72, 3), 9999);
    KitePost post = at(9928);
    due.is("9928 and 72", post.loose(72, 0), Due.STATE);
    due.is("no hour went by", post.count(0), 9928);
    due.is("no draw was made", post.count(9), 1);
    due.is("9928 and 71, never calm", post.loose(71, 0), 9999);
    due.is("9999 and 1, always calm", post.loose(1, 10), Due.STATE);
    due.is("9999 and 1, loose above", post.loose(1, 11), Due.BEYOND);
    due.is("9999 and 73", post.loose(73, 0), Due.BEYOND);
    due.is("9998 and 2", at(9998).loose(2, 10), Due.STATE);
    due.is("9998 and 1", at(9998).loose(1, 10), 9999);
  }

  private static int next(int z) {
    return z * 1103515245 + 12345;
  }

  /** By longs, so that no sign is in the way. */
  private static long rest(int z) {
    return ((z & 0xffffffffL) >> 8) % 10;
  }

  private static void drawsOfAnySign() {
    int below = 0;
    for (int seed : new int[] {0, 1, -1, 2, 77, Integer.MIN_VALUE, Integer.MAX_VALUE, 1 << 30, -12345}) {
      int z = next(seed);
      below += z < 0 ? 1 : 0;
      for (int loose = 0; loose <= 10; loose++) {
        KitePost post = Worlds.chain(2, 4);
        post.letter(0, 1, 0, -1);
        post.seed(seed);
        due.is("an hour", post.loose(1, loose), 1);
        due.is("seed " + seed + ": one draw", post.count(9), z);
        due.is("seed " + seed + ": calm below " + loose, post.count(4), rest(z) < loose ? 0 : 1);
      }
    }
    due.holds("some draws had z below 0: " + below, below >= 2);
  }

  private static void looseFromNeverToAlways() {
    for (int loose : new int[] {0, 1, 5, 9, 10}) {
      KitePost post = Worlds.chain(4, 4);
      post.seed(5);
      post.letter(0, 3, 0, -1);
      int z = 5;
      int on = 0;
      int when = -1;
      for (int hour = 1; hour <= 72; hour++) {
        z = next(z);
        on += rest(z) >= loose && on < 3 ? 1 : 0;
        when = on == 3 && when < 0 ? hour : when;
      }
      due.is("72 hours, loose " + loose, post.loose(72, loose), 72);
      due.is("72 draws", post.count(9), z);
      due.is("on hill", post.ofLetter(0, 5), on);
      due.is("arrived", post.ofLetter(0, 6), when);
    }
    KitePost never = Worlds.chain(2, 4);
    never.letter(0, 1, 0, -1);
    never.loose(72, 10);
    due.is("always calm", never.ofLetter(0, 6), -1);
    due.is("but its lines are there", never.lines(0), 1);
  }
}
