/** Promises 15 to 20: lines that cross, letters, hours, loose hours. */
public final class LinesLettersTest {
  private static final Due due = new Due();

  public static void main(String[] args) {
    crossings();
    crossErrors();
    whoComesDown();
    letters();
    hourByHour();
    whatAKiteTakes();
    downKitesTakeNothing();
    pay();
    hoursErrors();
    looseHours();
    due.end();
  }

  private static int xy(int x, int y) {
    return Worlds.xy(x, y);
  }

  /** Two kites of KIND KITE, LIFT 90 and 80, LINE 40, each from a place to another, in one wind. */
  private static KitePost twoLines(int dir, int[] first, int[] second) {
    KitePost post = new KitePost();
    post.wind(0, 10 * dir + 9);
    int[] places = {first[0], first[1], second[0], second[1]};
    int[] hills = new int[4];
    for (int i = 0; i < 4; i++) {
      hills[i] = -1;
      for (int h = 0; h < post.count(1); h++) {
        if (post.ofHill(h, 0) == places[i]) {
          hills[i] = h;
        }
      }
      if (hills[i] < 0) {
        hills[i] = post.hill(places[i], 0);
      }
    }
    post.kite(0, hills[0], 9040);
    post.kite(0, hills[2], 8040);
    post.aim(0, hills[1]);
    post.aim(1, hills[3]);
    return post;
  }

  private static void crossing(String what, int dir, int[] first, int[] second, int want) {
    KitePost post = twoLines(dir, first, second);
    due.is(what + ": lines", post.lines(0), 3);
    due.is(what + ": cross", post.cross(0, 1), want);
    due.is(what + ": cross, turned", post.cross(1, 0), want);
    due.is(what + ": down", post.lines(1), want == 1 ? 2 : 0);
  }

  private static int[] way(int x, int y, int toX, int toY) {
    return new int[] {xy(x, y), xy(toX, toY)};
  }

  private static void crossings() {
    crossing("through each other", 0, way(0, 0, 4, 4), way(0, 4, 4, 0), 1);
    crossing("through each other, between points", 0, way(0, 0, 3, 2), way(0, 1, 3, 0), 1);
    crossing("through each other, as small as can be", 0, way(0, 0, 1, 1), way(0, 1, 1, 0), 1);
    crossing("on one side of the other, between its ends", 1, way(0, 0, 4, 0), way(1, 2, 3, 8), 0);
    crossing("the same, turned", 1, way(1, 2, 3, 8), way(0, 0, 4, 0), 0);
    crossing("apart", 0, way(0, 0, 4, 0), way(0, 1, 4, 1), 0);
    crossing("would meet further on", 0, way(0, 0, 4, 4), way(6, 0, 7, 5), 0);
    crossing("an end on the other", 0, way(0, 0, 8, 0), way(2, 4, 4, 0), 1);
    crossing("a home on the other", 0, way(0, 0, 8, 0), way(4, 0, 6, 4), 1);
    crossing("a home that both have", 0, way(0, 0, 8, 0), way(0, 0, 8, 4), 0);
    crossing("an aim that both have", 0, way(0, 0, 8, 2), way(0, 4, 8, 2), 0);
    crossing("an aim that is a home", 0, way(0, 0, 4, 1), way(4, 1, 8, 0), 0);
    crossing("straight on", 0, way(0, 0, 4, 4), way(4, 4, 6, 6), 0);
    crossing("the same line", 0, way(0, 0, 4, 4), way(0, 0, 4, 4), 1);
    crossing("over one another, one home", 0, way(0, 0, 4, 4), way(0, 0, 8, 8), 1);
    crossing("over one another, one aim", 0, way(2, 2, 8, 8), way(0, 0, 8, 8), 1);
    crossing("over one another, in part", 0, way(0, 0, 4, 0), way(2, 0, 8, 0), 1);
    crossing("one inside the other", 0, way(0, 0, 8, 0), way(2, 0, 4, 0), 1);
    crossing("on one straight line, apart", 0, way(0, 0, 2, 0), way(4, 0, 8, 0), 0);
    crossing("upright, over one another", 2, way(3, 0, 3, 8), way(3, 4, 3, 9), 1);
    crossing("upright, apart", 2, way(3, 0, 3, 2), way(3, 4, 3, 9), 0);
    crossing("from one home to both sides", 2, way(4, 0, 0, 4), way(4, 0, 8, 4), 0);
  }

  private static void crossErrors() {
    KitePost post = twoLines(0, way(0, 0, 4, 4), way(0, 4, 4, 0));
    due.is("one twice", post.cross(0, 0), Due.BEYOND);
    due.is("none such", post.cross(0, 2), Due.BEYOND);
    due.is("none such, first", post.cross(-1, 0), Due.BEYOND);
    post.wind(0, 49);
    due.is("up the wind there is no line", post.cross(0, 1), 0);
    due.is("nor any", post.lines(0), 0);
    post.wind(0, 9);
    post.aim(1, -1);
    due.is("one has no aim", post.cross(0, 1), 0);
    due.is("lines", post.lines(0), 1);
    due.is("what below", post.lines(-1), Due.BEYOND);
    due.is("what above", post.lines(2), Due.BEYOND);
    post.hours(1);
    post.wind(1, 40);
    due.is("at the hour of NOW", post.lines(0), 0);
  }

  private static void whoComesDown() {
    KitePost post = new KitePost();
    // three lines from x 0 to x 8: the middle one crosses both others, which don't meet
    int[] from = {post.hill(xy(0, 0), 0), post.hill(xy(0, 4), 0), post.hill(xy(0, 8), 0)};
    int[] to = {post.hill(xy(8, 1), 0), post.hill(xy(8, 0), 0), post.hill(xy(8, 3), 0)};
    post.kite(0, from[0], 5040);
    post.kite(0, from[1], 6040);
    post.kite(0, from[2], 7040);
    post.aim(0, to[0]);
    post.aim(1, to[1]);
    post.aim(2, to[2]);
    due.is("the second crosses the first", post.cross(0, 1), 1);
    due.is("the third crosses none", post.cross(1, 2) + post.cross(0, 2), 0);
    due.is("the one of less lift comes down", post.lines(1), 0b001);
    post.aim(2, -1);
    int other = post.hill(xy(8, 2), 0);
    post.kite(0, from[0], 9040);
    post.aim(3, other);
    due.is("3 crosses 1", post.cross(1, 3), 1);
    due.is("3 and 0 have a home in common", post.cross(0, 3), 0);
    due.is("one that crosses only a DOWN one isn't", post.lines(1), 0b0010);

    KitePost all = new KitePost();
    all.hill(xy(15, 0), 0);
    for (int i = 0; i < 8; i++) {
      all.hill(xy(2 * i, 1), 0);
      all.kite(0, 1 + i, 100 * i + 40);
      all.aim(i, i == 7 ? 1 : 0);
    }
    all.wind(0, 41);
    due.is("only one stands against x", all.lines(0), 0b10000000);
    all.wind(0, 79);
    due.is("the others to hill 0, with their end in common", all.lines(0) * 1000 + all.lines(1), 0b01111111 * 1000);

    KitePost chain = new KitePost();
    for (int i = 0; i < 9; i++) {
      chain.hill(xy(i, 0), 0);
    }
    for (int i = 0; i < 8; i++) {
      chain.kite(0, i, 100 * (20 - i) + 40);
      chain.aim(i, 8);
    }
    due.is("eight over one another", chain.lines(0), 255);
    due.is("only the first stays", chain.lines(1), 254);

    KitePost weak = new KitePost();
    weak.hill(0, 0);
    weak.hill(16, 2);
    weak.kite(0, 0, 40);
    weak.aim(0, 1);
    due.is("a pull of 0 is a line", weak.lines(0), 1);
    weak.kite(0, 1, 40);
    weak.aim(1, 0);
    weak.wind(0, 41);
    due.is("a line to hill 0", weak.lines(0), 2);

    KitePost like = twoLines(0, way(0, 0, 4, 4), way(0, 4, 4, 0));
    like.kite(0, 2, 9040);
    like.aim(2, 3);
    like.aim(1, -1);
    due.is("of like lift the least number stays", like.lines(1), 0b100);
  }

  private static void letters() {
    KitePost post = new KitePost();
    post.hill(0, 0);
    post.hill(32, 0);
    post.hill(64, 0);
    due.is("answer to none such", post.letter(0, 1, 0, 0), Due.BEYOND);
    due.is("first", post.letter(0, 1, 30, -1), 0);
    due.is("answer to itself", post.letter(0, 1, 0, 1), Due.BEYOND);
    due.is("answer below none", post.letter(0, 1, 0, -2), Due.BEYOND);
    post.hours(5);
    due.is("second", post.letter(2, 0, 7, 0), 1);
    int[] want = {2, 0, 7, 0, 5, 2, -1};
    for (int what = 0; what < want.length; what++) {
      due.is("of the second " + what, post.ofLetter(1, what), want[what]);
    }
    due.is("the first was written at 0", post.ofLetter(0, 4), 0);
    due.is("what below", post.ofLetter(0, -1), Due.BEYOND);
    due.is("what above", post.ofLetter(0, 7), Due.BEYOND);
    due.is("letter below", post.ofLetter(-1, 0), Due.BEYOND);
    due.is("letter above", post.ofLetter(2, 0), Due.BEYOND);
    due.is("from none such", post.letter(3, 0, 0, -1), Due.BEYOND);
    due.is("to none such", post.letter(0, -1, 0, -1), Due.BEYOND);
    due.is("one and the same hill", post.letter(1, 1, 0, -1), Due.BEYOND);
    due.is("weight below", post.letter(0, 1, -1, -1), Due.BEYOND);
    due.is("weight above", post.letter(0, 1, 31, -1), Due.BEYOND);
    for (int i = 2; i < 12; i++) {
      due.is("letter " + i, post.letter(0, 1, 0, i - 1), i);
    }
    due.is("thirteen are too many", post.letter(0, 1, 0, 11), Due.FULL);
    due.is("BEYOND ahead of FULL", post.letter(0, 1, 31, 11), Due.BEYOND);
    due.is("on hill 0", post.ofHill(0, 2), 0b111111111101);
    due.is("on hill 1", post.ofHill(1, 2), 0);
    due.is("on hill 2", post.ofHill(2, 2), 2);
  }

  private static KitePost aChain() {
    return Worlds.chain(4, 20);
  }

  private static void hourByHour() {
    KitePost post = aChain();
    post.letter(0, 3, 1, -1);
    post.letter(0, 1, 2, -1);
    due.is("an hour", post.hours(1), 1);
    due.is("one hill an hour", post.ofLetter(0, 5), 1);
    due.is("not there yet", post.ofLetter(0, 6), -1);
    due.is("the other has arrived", post.ofLetter(1, 6), 1);
    due.is("where it arrived", post.ofLetter(1, 5), 1);
    due.is("only the first is on it", post.ofHill(1, 2), 1);
    due.is("two more", post.hours(2), 3);
    due.is("there", post.ofLetter(0, 5), 3);
    due.is("arrived", post.ofLetter(0, 6), 3);
    due.is("in order", post.order(0, 0) * 10 + post.order(0, 1), 10);
    due.is("an arrived one isn't taken again", post.ofLetter(1, 5), 1);
    due.is("PAID", post.count(5), 2 + 3);
    due.is("arrived ones", post.count(4), 2);

    KitePost calm = aChain();
    calm.letter(0, 1, 0, -1);
    calm.wind(0, 0);
    due.is("no force, but time goes by", calm.hours(1), 1);
    due.is("it stays", calm.ofLetter(0, 5), 0);
    calm.wind(1, 43);
    calm.hours(1);
    due.is("up the wind it stays", calm.ofLetter(0, 5), 0);
    calm.hours(1);
    due.is("it goes then", calm.ofLetter(0, 6), 3);
  }

  private static void whatAKiteTakes() {
    KitePost post = aChain(); // a pull of 46 without load
    post.letter(0, 1, 30, -1);
    post.letter(0, 1, 20, -1);
    post.letter(0, 1, 16, -1);
    post.letter(0, 1, 1, -1);
    post.letter(0, 1, 0, -1);
    post.hours(1);
    due.is("taken by numbers, what is too heavy is left", post.ofHill(0, 2), 0b01010);
    due.is("weight 46 in all", post.count(5), 31 + 17 + 1);
    due.is("in the order in which they were taken", post.order(0, 2), 4);
    post.hours(1);
    due.is("the rest an hour later", post.ofHill(0, 2), 0);
    due.is("by numbers again", post.order(0, 3), 1);

    KitePost byKites = new KitePost();
    byKites.hill(xy(0, 0), 0);
    byKites.hill(xy(4, 0), 0);
    byKites.hill(xy(4, 4), 0);
    byKites.kite(0, 0, 4020);
    byKites.kite(0, 0, 9920);
    byKites.aim(0, 1);
    byKites.aim(1, 2);
    byKites.letter(0, 2, 0, -1);
    byKites.hours(1);
    due.is("by numbers of kites, not by lift", byKites.ofLetter(0, 5), 1);

    KitePost onward = aChain();
    onward.letter(1, 2, 0, -1);
    onward.letter(0, 1, 0, -1);
    onward.hours(1);
    due.is("arrivals of one hour by kites", onward.order(0, 0), 1);
    due.is("and then", onward.order(0, 1), 0);
  }

  private static void downKitesTakeNothing() {
    KitePost post = twoLines(0, way(0, 0, 4, 4), way(0, 4, 4, 0));
    post.letter(0, 1, 0, -1);
    post.letter(2, 3, 0, -1);
    post.hours(1);
    due.is("that of the one that stays has arrived", post.ofLetter(0, 6), 1);
    due.is("that of the DOWN one waits", post.ofLetter(1, 5), 2);
    post.aim(0, -1);
    post.hours(1);
    due.is("until nobody crosses it", post.ofLetter(1, 6), 2);
  }

  private static void pay() {
    KitePost post = aChain();
    Due.read(post, 1, "h*100+w");
    post.hours(3);
    post.letter(0, 2, 9, -1);
    post.hours(2);
    due.is("by hours and weight", post.count(5), 209);
    Due.read(post, 1, "999");
    for (int i = 0; i < 11; i++) {
      post.letter(0, 1, 0, -1);
    }
    due.is("eleven more, ahead", post.then(1, 1), 209 + 11 * 999);
    post.hours(1);
    due.is("eleven more", post.count(5), 209 + 11 * 999);
    // PAID is held at 999999, which no 12 letters reach
    due.is("twelve have arrived", post.count(4), 12);
  }

  private static void hoursErrors() {
    KitePost post = new KitePost();
    due.is("n 0", post.hours(0), Due.BEYOND);
    due.is("n below", post.hours(-1), Due.BEYOND);
    due.is("n above", post.hours(73), Due.BEYOND);
    for (int i = 0; i < 138; i++) {
      post.hours(72);
    }
    due.is("138 times 72", post.count(0), 9936);
    due.is("64 are too many", post.hours(64), Due.STATE);
    due.is("also if loose", post.loose(64, 10), Due.STATE);
    due.is("BEYOND ahead of STATE", post.loose(64, 11), Due.BEYOND);
    due.is("no draw by errors", post.count(9), 1);
    post.image();
    due.is("63 are not, loose", post.loose(63, 5), 9999);
    post.restore();
    due.is("63 are not", post.hours(63), 9999);
    due.is("no more", post.hours(1), Due.STATE);
    due.is("BEYOND ahead of STATE, too", post.hours(73), Due.BEYOND);
  }

  private static void looseHours() {
    KitePost post = aChain();
    post.letter(0, 3, 0, -1);
    due.is("n 0", post.loose(0, 0), Due.BEYOND);
    due.is("n above", post.loose(73, 0), Due.BEYOND);
    due.is("loose below", post.loose(1, -1), Due.BEYOND);
    due.is("loose above", post.loose(1, 11), Due.BEYOND);
    due.is("all calm", post.loose(3, 10), 3);
    due.is("it stays", post.ofLetter(0, 5), 0);
    int z = 1;
    for (int i = 0; i < 3; i++) {
      z = z * 1103515245 + 12345;
    }
    due.is("three draws", post.count(9), z);
    due.is("none calm", post.loose(3, 0), 6);
    due.is("it arrives", post.ofLetter(0, 6), 6);

    // the first draw from 1 on has a rest of 9 or less: calm from one looseness on
    int rest = ((1103515245 + 12345) >>> 8) % 10;
    for (int loose = 0; loose <= 10; loose++) {
      KitePost one = aChain();
      one.letter(0, 1, 0, -1);
      one.loose(1, loose);
      due.is("calm if the rest " + rest + " is below " + loose, one.count(4), rest < loose ? 0 : 1);
    }

    KitePost some = aChain();
    some.seed(99);
    some.letter(0, 3, 0, -1);
    int seed = 99;
    int on = 0;
    for (int i = 0; i < 6; i++) {
      seed = seed * 1103515245 + 12345;
      on = Math.min(3, on + ((seed >>> 8) % 10 < 5 ? 0 : 1));
      due.is("loose hour " + i, some.loose(1, 5), i + 1);
      due.is("on a hill by draws " + i, some.ofLetter(0, 5), on);
    }
    due.is("z", some.count(9), seed);
  }
}
