/** The edges of Terms 1 that promises 1 to 11 show: hills, wind, kites, what they pull and over what they stand. */
public final class HillsEdgesTest {
  private static final Due due = new Due();

  public static void main(String[] args) {
    allAsAtFirst();
    noTwoHillsAtOnePlace();
    theNinthHill();
    theEighthKite();
    windOfEachHour();
    kindsAboveAndUnder();
    aimsAndNone();
    pullTurnsByForce();
    linesOfLongOnes();
    heightCountsUpwardsOnly();
    daysOfOldOnes();
    liftsIsHeldInPull();
    pullOverItsHome();
    theShortestAndTheLongestLine();
    downTheWindOrBeside();
    forceNoneAndPullNone();
    hoursGoRound();
    overInAnyHour();
    due.end();
  }

  private static int xy(int x, int y) {
    return Worlds.xy(x, y);
  }

  private static KitePost hills(int... places) {
    return Worlds.hills(places);
  }

  private static void allAsAtFirst() {
    KitePost post = new KitePost();
    due.is("no LIFTS", post.law(0, 9, 30, 999, 6), 0);
    due.is("PAYS of w+1", post.law(1, 1, 0, 0, 0), 1);
    due.is("no lines", post.lines(0) + post.lines(1), 0);
    due.is("no order", post.order(0, 0), Due.NONE);
    due.is("nothing early", post.before(), Due.NONE);
    due.is("nothing arrives", post.then(72, 0) + post.then(72, 1), 0);
    due.is("an empty tape", post.text(0), -10);
    due.is("the first number that waits", post.tell(7), 1);
    due.is("the first image", post.image(), 1);
    for (int sheet = 0; sheet < 4; sheet++) {
      due.is("sheet " + sheet + " is missing", post.winds(sheet), Due.NONE);
    }
  }

  private static void noTwoHillsAtOnePlace() {
    KitePost post = hills(xy(0, 0), xy(15, 15), xy(0, 15), xy(15, 0));
    int[] corners = {0, 255, 15, 240};
    for (int hill = 0; hill < 4; hill++) {
      due.is("corner " + hill, post.ofHill(hill, 0), corners[hill]);
      due.is("one stands at " + corners[hill], post.hill(corners[hill], 9), Due.STATE);
    }
    due.is("beside one", post.hill(xy(0, 1), 9), 4);
    due.is("as high as can be", post.ofHill(4, 1), 9);
    due.is("x and y turned", post.hill(xy(1, 0), 0), 5);
    due.is("as low as can be", post.ofHill(5, 1), 0);
  }

  private static void theNinthHill() {
    KitePost post = new KitePost();
    for (int i = 0; i < 9; i++) {
      due.is("hill " + i, post.hill(xy(i, 0), 0), i);
    }
    due.is("a tenth", post.hill(xy(9, 0), 0), Due.FULL);
    due.is("there is no hill 9", post.ofHill(9, 0), Due.BEYOND);
    due.is("a kite on the ninth", post.kite(0, 8, 1040), 0);
    post.wind(0, 41);
    due.is("over all others", post.over(0, 0, 0), 0b011111111);
    due.is("a kite on the first", post.kite(0, 0, 1040), 1);
    post.wind(0, 1);
    due.is("over the ninth, too", post.over(1, 0, 0), 0b111111110);
    due.is("aimed at the ninth", post.aim(1, 8), -1);
    due.is("as ofKite tells", post.ofKite(1, 5), 8);
    due.is("there is no hill 9 to aim at", post.aim(1, 9), Due.BEYOND);
    due.is("a letter to the ninth", post.letter(0, 8, 0, -1), 0);
    post.hours(1);
    due.is("is there", post.ofLetter(0, 5), 8);
    due.is("restored, nine are nine", post.image() + post.restore(), 2);
    due.is("and none more", post.hill(xy(9, 0), 0), Due.FULL);
  }

  private static void theEighthKite() {
    KitePost post = hills(xy(0, 0), xy(1, 0));
    for (int i = 0; i < 8; i++) {
      due.is("kite " + i, post.kite(10 * (i % 7) + i, 0, 100 * i + 1 + i), i);
      due.is("its LIFT", post.ofKite(i, 3), i);
      due.is("its LINE", post.ofKite(i, 4), 1 + i);
      due.is("its m", post.ofKite(i, 1), i);
      due.is("no AIM at first", post.ofKite(i, 5), -1);
    }
    due.is("a ninth", post.kite(0, 0, 101), Due.FULL);
    due.is("there is no kite 8", post.ofKite(8, 0), Due.BEYOND);
    due.is("the eighth is as it was", post.ofKite(7, 3), 7);
    due.is("its voice", post.voice(7, 0, 0), 7);
    due.is("the eighth as a KITE", post.as(7, 0), 7);
  }

  private static void windOfEachHour() {
    KitePost post = new KitePost();
    for (int hour = 0; hour < 24; hour++) {
      due.is("at first " + hour, post.wind(hour, 79 - 3 * hour), 3);
    }
    for (int hour = 0; hour < 24; hour++) {
      due.is("as it became " + hour, post.wind(hour, 0), 79 - 3 * hour);
      due.is("no wind at all " + hour, post.wind(hour, 3), 0);
    }
  }

  private static void kindsAboveAndUnder() {
    KitePost post = hills(0);
    post.kite(0, 0, 1);
    post.kite(60, 0, 9901);
    due.is("a LIFT of 0", post.as(0, 0), 0);
    due.is("a LIFT of 99", post.as(1, 6), 99);
    due.is("as the KIND above", post.as(1, 3), 99);
    due.is("as KITE, two above", post.as(1, 0), 99);
    due.is("beside it", post.as(1, 2), Due.KIND);
    due.is("a KIND under its own", post.as(0, 6), Due.KIND);
  }

  private static void aimsAndNone() {
    KitePost post = hills(xy(0, 0), xy(1, 0), xy(2, 0));
    post.kite(0, 0, 101);
    due.is("none in place of none", post.aim(0, -1), -1);
    due.is("its home, while it has none", post.aim(0, 0), Due.STATE);
    due.is("the last hill, though its line is too short", post.aim(0, 2), -1);
    due.is("the same again", post.aim(0, 2), 2);
    due.is("its home in place of one", post.aim(0, 0), Due.STATE);
    due.is("it stays", post.aim(0, -1), 2);
  }

  /** What each KIND pulls with a FORCE, LIFT 20, m 9, LINE 40, over a hill as high as home. */
  private static void pullTurnsByForce() {
    KitePost post = hills(xy(0, 0), xy(1, 0));
    for (int kind = 0; kind < 7; kind++) {
      post.kite(10 * kind + 9, 0, 2040);
    }
    int[][] due09 = {
      {20, 22, 24, 26, 28, 30, 38}, // KITE
      {11, 13, 15, 26, 28, 30, 38}, // BOXED: less 9 up to FORCE 2
      {20, 21, 22, 23, 24, 25, 29}, // TAILED
      {29, 31, 33, 35, 37, 21, 29}, // SILK: and m up to FORCE 4, else less m
      {22, 26, 30, 52, 56, 60, 76}, // DOUBLE
      {30, 31, 32, 33, 34, 35, 39}, // LONG
      {29, 31, 33, 35, 37, 21, 29}, // OLD, on the first day
    };
    int[] forces = {0, 1, 2, 3, 4, 5, 9};
    for (int i = 0; i < forces.length; i++) {
      post.wind(0, 50 + forces[i]);
      for (int kind = 0; kind < 7; kind++) {
        due.is("kind " + kind + " force " + forces[i], post.pull(kind, 1, 0), due09[kind][i]);
      }
    }
    post.wind(0, 2);
    due.is("DOUBLE of a pull below 0", post.pull(4, 1, 999), 2 * (20 + 4 - 999 - 9));
  }

  private static void linesOfLongOnes() {
    int[] lines = {1, 3, 4, 7, 8, 39, 40};
    int[] more = {0, 0, 1, 1, 2, 9, 10};
    KitePost post = hills(xy(0, 0), xy(1, 0));
    for (int i = 0; i < lines.length; i++) {
      post.kite(50, 0, 1000 + lines[i]);
      due.is("LINE " + lines[i] + " by 4, cut", post.pull(i, 1, 0), 10 + 6 - 3 + more[i]);
    }
  }

  private static void heightCountsUpwardsOnly() {
    KitePost post = new KitePost();
    int[] high = {4, 5, 4, 3, 0, 9};
    for (int i = 0; i < high.length; i++) {
      post.hill(xy(i, 0), high[i]);
    }
    post.kite(0, 0, 5040);
    int[] pull = {56, 53, 56, 56, 56, 41};
    for (int i = 0; i < high.length; i++) {
      due.is("over height " + high[i], post.pull(0, i, 0), pull[i]);
    }
    post.kite(0, 4, 2140);
    due.is("from 0 to 9", post.pull(1, 5, 0), 21 + 6 - 27);
    due.is("pull 0 is enough", post.stands(1, 5, 0), 1);
    due.is("with a load of 1 it isn't", post.stands(1, 5, 1), 0);
  }

  private static void daysOfOldOnes() {
    KitePost post = hills(xy(0, 0), xy(1, 0));
    post.kite(60, 0, 2040);
    post.hours(23);
    due.is("the last hour of the first day", post.pull(0, 1, 0), 26);
    post.hours(1);
    due.is("the first of the second", post.pull(0, 1, 0), 25);
    Worlds.until(post, 9983);
    due.is("day 415", post.pull(0, 1, 0), 26 - 415);
    post.hours(1);
    due.is("day 416", post.pull(0, 1, 0), 26 - 416);
    post.hours(15);
    due.is("NOW 9999", post.pull(0, 1, 0), 26 - 416);
    due.is("a KITE has no days", post.kite(0, 0, 2040) * 100 + post.pull(1, 1, 0), 126);
  }

  private static void liftsIsHeldInPull() {
    KitePost post = hills(xy(0, 0), xy(1, 0));
    post.kite(0, 0, 140);
    post.kite(40, 0, 140);
    String[] texts = {"98", "99", "100", "0-98", "0-99", "0-100", "9999*9999", "0-9999*9999"};
    int[] gives = {98, 99, 99, -98, -99, -99, 99, -99};
    for (int i = 0; i < texts.length; i++) {
      Due.read(post, 0, texts[i]);
      due.is("KITE with " + texts[i], post.pull(0, 1, 0), 7 + gives[i]);
      due.is("DOUBLE with it, once", post.pull(1, 1, 0), 14 + gives[i]);
    }
    Due.read(post, 0, "l-f");
    due.is("a law that takes the load away, held", post.pull(0, 1, 999), 7 - 999 + 99);
    due.is("not held yet", post.pull(0, 1, 102), 7 - 102 + 99);
    Due.read(post, 0, "0-8");
    due.is("stands by the law, too", post.stands(0, 1, 0), 0);
    Due.read(post, 0, "0-7");
    due.is("stands with a pull of 0", post.stands(0, 1, 0), 1);
    Due.read(post, 0, "k*10+d");
    due.is("KIND 0, FAR 1", post.pull(0, 1, 0), 7 + 1);
    due.is("KIND 4, FAR 1", post.pull(1, 1, 0), 14 + 41);
  }

  private static void pullOverItsHome() {
    KitePost post = new KitePost();
    post.hill(0, 9);
    post.kite(0, 0, 140);
    due.is("pull over its home", post.pull(0, 0, 0), 7);
    due.is("it doesn't stand there", post.stands(0, 0, 0), 0);
    due.is("nor anywhere else", post.over(0, 0, 0), 0);
    Due.read(post, 0, "d=0");
    due.is("FAR of it is 0", post.pull(0, 0, 0), 8);
  }

  private static void theShortestAndTheLongestLine() {
    KitePost post = hills(xy(0, 0), xy(1, 0), xy(0, 2), xy(1, 1), xy(15, 15), xy(15, 14));
    post.wind(0, 11);
    post.kite(0, 0, 1001);
    post.kite(0, 0, 1002);
    post.kite(0, 0, 1028);
    post.kite(0, 0, 1029);
    post.kite(0, 0, 1030);
    post.kite(0, 0, 1040);
    int[] over = {0b000010, 0b001110, 0b001110, 0b101110, 0b111110, 0b111110};
    for (int kite = 0; kite < over.length; kite++) {
      due.is("LINE " + post.ofKite(kite, 4), post.over(kite, 0, 0), over[kite]);
    }
    KitePost back = hills(xy(15, 15), xy(0, 0));
    back.wind(0, 51);
    back.kite(0, 0, 1029);
    back.kite(0, 0, 1030);
    due.is("FAR is without sign: 29 is too short", back.stands(0, 1, 0), 0);
    due.is("30 isn't", back.stands(1, 1, 0), 1);
    KitePost mixed = hills(xy(0, 15), xy(15, 0));
    mixed.wind(0, 71);
    mixed.kite(0, 0, 1029);
    mixed.kite(0, 0, 1030);
    due.is("also where one is less and one more", mixed.stands(0, 1, 0), 0);
    due.is("with 30", mixed.stands(1, 1, 0), 1);
  }

  /** The two differences along DIR, together: 0 is not above 0, 1 is. */
  private static void downTheWindOrBeside() {
    int[][] apart = {{1, -1}, {2, -1}, {1, -2}, {-1, 1}, {0, 1}, {1, 0}};
    int[][] stands = { // by DIR 0 to 7
      {1, 0, 0, 0, 0, 0, 1, 1},
      {1, 1, 0, 0, 0, 0, 1, 1},
      {1, 0, 0, 0, 0, 1, 1, 1},
      {0, 0, 1, 1, 1, 0, 0, 0},
      {0, 1, 1, 1, 0, 0, 0, 0},
      {1, 1, 0, 0, 0, 0, 0, 1},
    };
    for (int i = 0; i < apart.length; i++) {
      KitePost post = hills(xy(8, 8), xy(8 + apart[i][0], 8 + apart[i][1]));
      post.kite(0, 0, 1040);
      for (int dir = 0; dir < 8; dir++) {
        post.wind(0, 10 * dir + 1);
        String what = "x " + apart[i][0] + " y " + apart[i][1] + " dir " + dir;
        due.is(what, post.stands(0, 1, 0), stands[i][dir]);
        due.is(what + ", over", post.over(0, 0, 0), 2 * stands[i][dir]);
      }
    }
  }

  private static void forceNoneAndPullNone() {
    KitePost post = hills(xy(0, 0), xy(1, 0));
    post.kite(0, 0, 9901);
    post.kite(0, 0, 1);
    post.wind(0, 0);
    due.is("FORCE 0: nobody stands", post.stands(0, 1, 0) + post.over(0, 0, 0), 0);
    due.is("whatever it pulls", post.pull(0, 1, 0), 99);
    post.wind(0, 1);
    due.is("FORCE 1", post.stands(0, 1, 0), 1);
    due.is("LIFT 0 and FORCE 1, load 2: pull 0", post.stands(1, 1, 2), 1);
    due.is("load 3: pull -1", post.stands(1, 1, 3), 0);
    due.is("pull -1", post.pull(1, 1, 3), -1);
    post.wind(0, 9);
    due.is("the most that KITE pulls", post.pull(0, 1, 0), 117);
    due.is("with a load of 117", post.stands(0, 1, 117), 1);
    due.is("with 118", post.stands(0, 1, 118), 0);
  }

  private static void hoursGoRound() {
    KitePost post = hills(xy(0, 0), xy(1, 0));
    post.kite(0, 0, 1001);
    post.wind(0, 41);
    post.wind(23, 9);
    due.is("hour 0", post.stands(0, 1, 0), 0);
    post.hours(23);
    due.is("hour 23", post.pull(0, 1, 0), 28);
    post.hours(1);
    due.is("NOW 24 is hour 0", post.stands(0, 1, 0), 0);
    due.is("its force", post.pull(0, 1, 0), 12);
    Worlds.until(post, 9999);
    post.wind(9999 % 24, 7);
    due.is("NOW 9999 is hour 15", post.pull(0, 1, 0), 24);
  }

  private static void overInAnyHour() {
    KitePost post = hills(xy(0, 0), xy(1, 0));
    post.kite(60, 0, 140);
    for (int hour = 0; hour < 24; hour++) {
      post.wind(hour, hour % 2 == 0 ? 41 : 1);
    }
    post.hours(25);
    for (int hour = 0; hour < 24; hour++) {
      due.is("hour " + hour + " of this day", post.over(0, hour, 2), hour % 2 == 0 ? 0 : 2);
      due.is("OLD by NOW, a day: too heavy in hour " + hour, post.over(0, hour, 3), 0);
    }
  }
}
