/** The edges of promises 29 to 41: z, voices that go round, the trace, sheets (Terms 4), images, numbers that wait. */
public final class TellingEdgesTest {
  private static final int MIN = Integer.MIN_VALUE;
  private static final int MAX = Integer.MAX_VALUE;

  private static final Due due = new Due();

  public static void main(String[] args) {
    anySeed();
    voicesGoRound();
    lengthsOfTraces();
    theTraceOfTheLatest();
    sheetsComeAndGo();
    lowestBits();
    theLastNumberOfASheet();
    movesToTheEnds();
    movesAsTheyAllWere();
    windsUpToHour23();
    imagesOfNothing();
    imagesOneAfterAnother();
    imagesOfWhatWaits();
    imagesOfAllThatIsFull();
    twentyNumbers();
    checksOfTwentyHours();
    toldOfEach();
    fiveHundredAndTwelveCalls();
    due.end();
  }

  private static void anySeed() {
    KitePost post = new KitePost();
    int was = 1;
    for (int v : new int[] {0, -1, MIN, MAX, Due.BEYOND, Due.NONE, Due.STATE, Due.FULL, Due.KIND, 1}) {
      due.is("z was", post.seed(v), was);
      due.is("z is", post.count(9), v);
      was = v;
    }
    for (int k = 1; k <= 5; k++) {
      due.is("none of these answers is an ERROR " + k, post.told(k), 0);
    }
  }

  private static void voicesGoRound() {
    KitePost none = Worlds.oneOfEach(0);
    KitePost nine = Worlds.oneOfEach(9);
    int half = 1 << 30;
    due.is("10: x + n", none.voice(1, 0, MAX), MIN);
    due.is("10: x + n, far round", none.voice(6, 0, MAX), MIN + 5);
    due.is("11: twice", none.voice(0, 1, half), MIN);
    due.is("11: twice the least", none.voice(0, 1, MIN), 0);
    due.is("12: x - m", nine.voice(0, 2, MIN), MAX - 8);
    due.is("12: x - 0", none.voice(0, 2, MIN), MIN);
    due.is("13: both round", nine.voice(0, 3, MIN), 0 ^ MAX - 8);
    due.is("20: less 1 from the least", none.voice(1, 1, half - 1), MAX);
    due.is("20: less -8 from the greatest but one", nine.voice(1, 1, half - 2), MIN + 6);
    due.is("30: three times", none.voice(2, 0, MAX), MIN + 3);
    due.is("30: three times what is just too much", none.voice(2, 0, 715827881), -2147483647);
    due.is("40: less the least", nine.voice(3, 2, MIN + 9), MIN);
    due.is("40: less what went round", nine.voice(3, 2, MIN), -(MAX - 8));
    due.is("50: x + 1", none.voice(4, 1, MAX), 7);
    due.is("60: tells less lifts(2)", none.voice(5, 3, MIN), (30 ^ MIN) - 21);
    due.is("70: turned by n", nine.voice(6, 2, MIN + 9), MIN ^ 6);
    due.is("71: sways less tells", none.voice(6, 3, MIN), 12 - (12 ^ MIN ^ 6));
    for (int k = 1; k <= 5; k++) {
      due.is("none of these answers is an ERROR " + k, none.told(k) + nine.told(k), 0);
    }
    due.is("an answer like an ERROR", none.voice(0, 0, Due.FULL), Due.FULL);
    due.is("isn't counted", none.told(4), 0);
  }

  private static void lengthsOfTraces() {
    int[][] lengths = {
      {1, 2, 1, 4}, {1, 4, 1, 6}, {2, 3, 1, 5}, {1, 2, 2, 5}, {1, 5, 1, 7}, {2, 3, 1, 8}, {1, 2, 3, 9}
    };
    KitePost post = Worlds.oneOfEach(5);
    for (int kind = 0; kind < 7; kind++) {
      for (int act = 0; act < 4; act++) {
        post.voice(kind, act, 3);
        String what = "kind " + kind + " act " + act;
        due.is(what, post.count(8), lengths[kind][act]);
        due.holds(what + ": the last", post.trace(lengths[kind][act] - 1) >= 10);
        due.is(what + ": none behind it", post.trace(lengths[kind][act]), Due.NONE);
      }
    }
  }

  private static void theTraceOfTheLatest() {
    KitePost post = Worlds.oneOfEach(0);
    due.is("none at first", post.trace(0), Due.NONE);
    due.is("an empty one", post.count(8), 0);
    post.voice(6, 3, 0);
    due.is("nine", post.count(8), 9);
    post.voice(0, 0, 0);
    due.is("only that of the latest", post.count(8) * 100 + post.trace(0), 110);
    due.is("nothing of the one ahead", post.trace(1), Due.NONE);
    due.is("below 0", post.trace(-1), Due.NONE);
    due.is("the least int", post.trace(MIN), Due.NONE);
    due.is("the greatest", post.trace(MAX), Due.NONE);
    due.is("40", post.trace(40), Due.NONE);
    due.is("an ERROR leaves it", post.voice(7, 0, 0), Due.BEYOND);
    due.is("as it was", post.trace(0), 10);
  }

  private static void sheetsComeAndGo() {
    for (int sheet = 0; sheet < 4; sheet++) {
      for (int bits : new int[] {8, 16, 32}) {
        KitePost post = new KitePost();
        due.is("missing at first", post.put(sheet, 0, 1), Due.NONE);
        for (int n : new int[] {0, MIN, MAX, -1, 41}) {
          due.is("missing, n doesn't matter", post.sheet(sheet, 0, n), 1);
        }
        due.is("of no numbers", post.sheet(sheet, bits, 0), 1);
        due.is("it isn't missing", post.winds(sheet), 0);
        due.is("but has no number", post.put(sheet, 0, 1), Due.BEYOND);
        due.is("of 41", post.sheet(sheet, bits, 41), Due.BEYOND);
        due.is("of -1", post.sheet(sheet, bits, -1), Due.STATE);
        due.is("of the least int", post.sheet(sheet, bits, MIN), Due.STATE);
        due.is("of the greatest", post.sheet(sheet, bits, MAX), Due.BEYOND);
        due.is("still of no numbers", post.put(sheet, 0, 1), Due.BEYOND);
        due.is("of 40", post.sheet(sheet, bits, 40), 1);
        due.is("the last", post.put(sheet, 39, 1), 1);
        due.is("one more", post.put(sheet, 40, 1), Due.BEYOND);
        due.is("all are 0 but that", post.winds(sheet), 24);
        due.is("0", post.wind(23, 3), 0);
        due.is("missing again", post.sheet(sheet, 0, MIN), 1);
        due.is("so it is", post.winds(sheet), Due.NONE);
      }
    }
    KitePost post = new KitePost();
    post.sheet(0, 8, 3);
    post.put(0, 0, 99);
    due.is("99 is none", post.winds(0), 0);
    post.sheet(0, 8, 3);
    due.is("all 0 anew", post.winds(0), 3);
    post.put(0, 0, 99);
    post.sheet(0, 0, 0);
    post.sheet(0, 16, 1);
    due.is("all 0 behind being missing", post.winds(0), 1);
  }

  /** What a number is then: the wind that comes of it, or -1 if none does. */
  private static int kept(int bits, int v) {
    KitePost post = new KitePost();
    post.sheet(0, bits, 1);
    due.is("put " + v, post.put(0, 0, v), 1);
    return post.winds(0) == 1 ? post.wind(0, 3) : -1;
  }

  private static void lowestBits() {
    int[][] rows = { // v, by 8, 16, 32 bits
      {0, 0, 0, 0}, {79, 79, 79, 79}, {80, -1, -1, -1}, {127, -1, -1, -1}, {128, -1, -1, -1}, {255, -1, -1, -1},
      {256, 0, -1, -1}, {335, 79, -1, -1}, {336, -1, -1, -1}, {-1, -1, -1, -1}, {-177, 79, -1, -1}, {-176, -1, -1, -1},
      {32768, 0, -1, -1}, {65535, -1, -1, -1}, {65536, 0, 0, -1}, {65615, 79, 79, -1}, {65616, -1, -1, -1},
      {-65457, 79, 79, -1}, {MIN, 0, 0, -1}, {MIN + 79, 79, 79, -1}, {MAX, -1, -1, -1}
    };
    for (int[] row : rows) {
      due.is("8 bits of " + row[0], kept(8, row[0]), row[1]);
      due.is("16 bits of " + row[0], kept(16, row[0]), row[2]);
      due.is("32 bits of " + row[0], kept(32, row[0]), row[3]);
    }
  }

  private static void theLastNumberOfASheet() {
    for (int n : new int[] {1, 2, 39, 40}) {
      KitePost post = new KitePost();
      post.sheet(3, 8, n);
      due.is("the first of " + n, post.put(3, 0, 1), 1);
      due.is("the last of " + n, post.put(3, n - 1, 1), 1);
      due.is("one behind it", post.put(3, n, 1), Due.BEYOND);
      due.is("one ahead of all", post.put(3, -1, 1), Due.BEYOND);
    }
  }

  private static KitePost twoSheets(int n, int other) {
    KitePost post = new KitePost();
    post.sheet(0, 32, n);
    post.sheet(1, 32, other);
    for (int i = 0; i < n; i++) {
      post.put(0, i, 1 + i);
    }
    return post;
  }

  private static void movesToTheEnds() {
    KitePost post = twoSheets(40, 3);
    due.is("all into itself", post.move(0, 0, 0, 0, 40), 40);
    due.is("one more", post.move(0, 0, 0, 0, 41), Due.BEYOND);
    due.is("as many as the other has", post.move(0, 37, 1, 0, 3), 3);
    due.is("one more than it has", post.move(0, 36, 1, 0, 4), Due.BEYOND);
    due.is("the last", post.move(0, 39, 1, 2, 1), 1);
    due.is("one behind the last", post.move(0, 40, 1, 2, 1), Due.BEYOND);
    due.is("to one behind the last", post.move(0, 39, 1, 3, 1), Due.BEYOND);
    due.is("none, from the end to the end", post.move(0, 40, 1, 3, 0), 0);
    due.is("none, from behind the end", post.move(0, 41, 1, 3, 0), Due.BEYOND);
    due.is("none, to behind the end", post.move(0, 40, 1, 4, 0), Due.BEYOND);
    due.is("none, from below", post.move(0, -1, 1, 0, 0), Due.BEYOND);
    due.is("none, to below", post.move(0, 0, 1, -1, 0), Due.BEYOND);
    due.is("fewer than none", post.move(0, 0, 1, 0, -1), Due.BEYOND);
    due.is("the least int", post.move(0, 0, 1, 0, MIN), Due.BEYOND);
    due.is("i and n go round", post.move(0, MAX, 1, 0, 1), Due.BEYOND);
    due.is("j and n go round", post.move(0, 0, 1, MAX, 1), Due.BEYOND);
    due.is("n and i go round", post.move(0, 1, 1, 0, MAX), Due.BEYOND);
    due.is("all go round", post.move(0, MAX, 1, MAX, MAX), Due.BEYOND);
    due.is("three came", post.winds(1), 3);
    due.is("the first", post.wind(0, 3), 38);
    due.is("the third", post.wind(2, 3), 40);
    KitePost empty = twoSheets(0, 0);
    due.is("none of none", empty.move(0, 0, 1, 0, 0), 0);
    due.is("one of none", empty.move(0, 0, 1, 0, 1), Due.BEYOND);
  }

  private static void movesAsTheyAllWere() {
    KitePost up = twoSheets(6, 0);
    due.is("up by one", up.move(0, 0, 0, 1, 5), 5);
    KitePost down = twoSheets(6, 0);
    due.is("down by one", down.move(0, 1, 0, 0, 5), 5);
    KitePost same = twoSheets(6, 0);
    due.is("to where they stand", same.move(0, 2, 0, 2, 3), 3);
    int[][] want = {{1, 1, 2, 3, 4, 5}, {2, 3, 4, 5, 6, 6}, {1, 2, 3, 4, 5, 6}};
    KitePost[] posts = {up, down, same};
    for (int k = 0; k < 3; k++) {
      due.is("six", posts[k].winds(0), 6);
      for (int i = 0; i < 6; i++) {
        due.is("move " + k + ", number " + i, posts[k].wind(i, 3), want[k][i]);
      }
    }
    KitePost from = twoSheets(3, 3);
    from.move(0, 0, 1, 0, 3);
    due.is("they stay where they came from", from.winds(0) * 100 + from.wind(2, 3), 303);
  }

  private static void windsUpToHour23() {
    for (int n : new int[] {0, 1, 23, 24, 25, 40}) {
      KitePost post = new KitePost();
      post.sheet(2, 16, n);
      int came = Math.min(n, 24);
      due.is("of " + n, post.winds(2), came);
      for (int hour = 0; hour < 24; hour++) {
        due.is("of " + n + ", hour " + hour, post.wind(hour, 3), hour < came ? 0 : 3);
      }
    }
    for (int none : new int[] {0, 1, 22, 23, 24, 39}) {
      for (int v : new int[] {80, -1, MIN, MAX}) {
        KitePost post = new KitePost();
        post.sheet(2, 32, 40);
        post.put(2, none, v);
        int came = Math.min(none, 24);
        due.is("none at " + none, post.winds(2), came);
        due.is("the hour of it stays", none < 24 ? post.wind(none, 3) : 3, 3);
        due.is("hour 23", post.wind(23, 3), came == 24 ? 0 : 3);
      }
    }
    KitePost most = new KitePost();
    most.sheet(0, 8, 1);
    most.put(0, 0, 79);
    due.is("79 is the last that is one", most.winds(0) * 100 + most.wind(0, 3), 179);
  }

  private static void imagesOfNothing() {
    KitePost post = new KitePost();
    due.is("none", post.restore(), Due.NONE);
    due.is("counted", post.told(2), 1);
    due.is("an image of nothing", post.image(), 1);
    post.hill(0, 0);
    post.hill(1, 0);
    post.kite(0, 0, 101);
    post.letter(0, 1, 0, -1);
    post.hours(72);
    post.seed(9);
    post.feed('1', 1);
    post.tell(1);
    post.wind(23, 79);
    due.is("NOW 0", post.restore(), 0);
    for (int what = 0; what < 9; what++) {
      due.is("nothing again " + what, post.count(what), 0);
    }
    due.is("z", post.count(9), 1);
    due.is("wind", post.wind(23, 3), 3);
    due.is("no hill stands there", post.hill(0, 5), 0);
    due.is("as high as told now", post.ofHill(0, 1), 5);
    due.is("its kite anew", post.kite(11, 0, 201), 0);
    due.is("without an aim", post.ofKite(0, 5), -1);
  }

  private static void imagesOneAfterAnother() {
    KitePost post = Worlds.chain(2, 4);
    for (int i = 1; i <= 50; i++) {
      due.is("how often", post.image(), i);
      post.hours(1);
    }
    due.is("the latest", post.restore(), 49);
    due.is("it stays", post.restore(), 49);
    post.hours(5);
    due.is("still", post.restore(), 49);
    due.is("how often goes on", post.image(), 51);
    Worlds.until(post, 9999);
    due.is("of the last time", post.image(), 52);
    due.is("restored", post.restore(), 9999);
    due.is("it is the last", post.hours(1), Due.STATE);
  }

  private static void imagesOfWhatWaits() {
    KitePost post = new KitePost();
    for (int i = 0; i < 20; i++) {
      post.tell(i);
    }
    Due.feed(post, "1+".repeat(25));
    post.image();
    post.check(0);
    post.text(0);
    due.is("none wait, no bytes", post.count(7) + post.count(6), 0);
    post.restore();
    due.is("20 wait", post.tell(1), Due.FULL);
    due.is("50 bytes", post.feed('1', 1), Due.FULL);
    due.is("they end too early", post.text(0), -60);
    due.is("what told() tells isn't restored", post.told(4) * 10 + post.told(1), 21);
  }

  private static void imagesOfAllThatIsFull() {
    KitePost post = Worlds.full();
    KitePost twin = Worlds.full();
    post.image();
    twin.image();
    post.check(0);
    post.text(1);
    post.aim(7, -1);
    post.wind(23, 79);
    post.hours(2);
    post.restore();
    due.is("a tenth hill", post.hill(255, 0), Due.FULL);
    due.is("a ninth kite", post.kite(0, 0, 101), Due.FULL);
    due.is("a thirteenth letter", post.letter(0, 1, 0, -1), Due.FULL);
    due.is("a 51st byte", post.feed(0, 1), Due.FULL);
    due.is("a 21st number", post.tell(0), Due.FULL);
    due.is("all told of", post.told(4), 5);
    due.holds("all is as the image has it", Probe.of(post).equals(Probe.of(twin)));
  }

  private static void twentyNumbers() {
    KitePost post = new KitePost();
    int[] any = {0, -1, MIN, MAX, Due.BEYOND};
    for (int i = 1; i <= 20; i++) {
      due.is("number " + i, post.tell(any[i % any.length]), i);
      due.is("so many wait", post.count(7), i);
    }
    due.is("a 21st", post.tell(0), Due.FULL);
    due.is("a 22nd", post.tell(0), Due.FULL);
    due.is("counted", post.told(4), 2);
    due.is("none such", post.check(0), Due.BEYOND);
    due.is("none wait then", post.count(7), 0);
    due.is("the first again", post.tell(0), 1);
  }

  /** A letter that goes on one hill an hour from hour 18 on, up to hill 2. */
  private static KitePost goesLate() {
    KitePost post = Worlds.chain(3, 4);
    for (int hour = 0; hour < 18; hour++) {
      post.wind(hour, 0);
    }
    post.letter(0, 2, 0, -1);
    return post;
  }

  private static void checksOfTwentyHours() {
    int[] right = new int[20];
    right[18] = 1;
    right[19] = 2;
    for (int wrong = 0; wrong <= 20; wrong++) {
      for (int by : new int[] {1, -1, MAX}) {
        KitePost post = goesLate();
        for (int i = 0; i < 20; i++) {
          post.tell(i == wrong ? right[i] + by : right[i]);
        }
        due.is("wrong at " + wrong, post.check(0), wrong == 20 ? 0 : 1 + wrong);
        due.is("none wait then", post.count(7), 0);
        due.is("no hour went by", post.count(0) + post.ofLetter(0, 5), 0);
      }
    }
    KitePost post = goesLate();
    due.is("none wait", post.check(0), 0);
    post.tell(3);
    post.tell(0);
    due.is("the first of two", post.check(0), 1);
    post.hours(20);
    for (int i = 0; i < 20; i++) {
      post.tell(2);
    }
    due.is("where it arrived, on and on", post.check(0), 0);
    Worlds.until(post, 9999);
    post.tell(2);
    post.tell(1);
    due.is("beyond the last time", post.check(0), 2);
  }

  private static void toldOfEach() {
    KitePost post = Worlds.twentyWait();
    for (int times = 1; times <= 3; times++) {
      due.is("BEYOND", post.ofHill(9, 0), Due.BEYOND);
      due.is("NONE", post.trace(-1), Due.NONE);
      due.is("STATE", post.aim(0, 0), Due.STATE);
      due.is("FULL", post.tell(0), Due.FULL);
      due.is("KIND", post.as(0, 6), Due.KIND);
      for (int k = 1; k <= 5; k++) {
        due.is("told " + k, post.told(k), times);
      }
    }
    int beyond = 3;
    for (int k : new int[] {0, 6, -1, MIN, MAX}) {
      due.is("k " + k, post.told(k), Due.BEYOND);
      beyond++;
      due.is("counted, too", post.told(1), beyond);
    }
    due.is("an ERROR in longs", post.sure(-1, 0, 0, 0), -1000000001L);
    due.is("counted like others", post.told(1), beyond + 1);
  }

  private static void fiveHundredAndTwelveCalls() {
    KitePost images = new KitePost();
    for (int i = 1; i < 512; i++) {
      images.image();
    }
    due.is("the 512th call", images.image(), 512);
    KitePost errors = new KitePost();
    for (int i = 1; i < 512; i++) {
      errors.told(0);
    }
    due.is("511 ERRORS are told of", errors.told(1), 511);
    KitePost drawn = new KitePost();
    int z = 1;
    for (int i = 1; i < 512; i++) {
      drawn.loose(1, 5);
      z = z * 1103515245 + 12345;
    }
    due.is("z behind 511 draws", drawn.count(9), z);
  }
}
