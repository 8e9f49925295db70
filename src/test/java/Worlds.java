/** Posts that several tests begin with. */
final class Worlds {
  private Worlds() {}

  static int xy(int x, int y) {
    return 16 * x + y;
  }

  /** Hills at places, all of height 0. */
  static KitePost hills(int... places) {
    KitePost post = new KitePost();
    for (int place : places) {
      post.hill(place, 0);
    }
    return post;
  }

  /** Kites 0 to 6 of KINDS 0 to 6, all of m, on one hill. */
  static KitePost oneOfEach(int m) {
    KitePost post = hills(0);
    for (int kind = 0; kind < 7; kind++) {
      post.kite(10 * kind + m, 0, 101);
    }
    return post;
  }

  /** Hills 4 apart on y 0, of height 0, each but the last with a kite of KIND KITE, LIFT 40, aimed at the next. */
  static KitePost chain(int hills, int line) {
    KitePost post = new KitePost();
    for (int i = 0; i < hills; i++) {
      post.hill(xy(4 * i, 0), 0);
    }
    for (int i = 0; i + 1 < hills; i++) {
      post.kite(0, i, 4000 + line);
      post.aim(i, i + 1);
    }
    return post;
  }

  /** Hours go by until it is that late. */
  static void until(KitePost post, int time) {
    int now = post.count(0);
    while (now < time) {
      now = post.hours(Math.min(72, time - now));
    }
  }

  /**
   * One of everything: 4 hills (none at xy 0 or 255), 3 kites, 4 letters of which one has arrived, a wind of its own,
   * both texts, 3 bytes on the tape, 3 numbers that wait, a trace, 3 sheets, an image of an hour ahead.
   */
  static KitePost busy() {
    KitePost post = new KitePost();
    int[] high = {0, 2, 0, 1};
    for (int i = 0; i < 4; i++) {
      post.hill(xy(1 + 4 * i, 1), high[i]);
    }
    post.kite(0, 0, 4020);
    post.kite(44, 1, 3012);
    post.kite(69, 2, 5030);
    post.aim(0, 1);
    post.aim(1, 2);
    post.wind(5, 47);
    post.wind(23, 68);
    post.letter(0, 1, 3, -1);
    post.letter(0, 2, 2, 0);
    post.letter(3, 0, 30, 1);
    Due.read(post, 0, "d-4");
    Due.read(post, 1, "h*10+w");
    post.image();
    post.hours(1);
    post.letter(1, 3, 0, 2);
    post.wind(6, 11);
    post.seed(77);
    Due.feed(post, "h+5");
    post.tell(2);
    post.tell(2);
    post.tell(9);
    post.voice(1, 3, 5);
    fillSheets(post);
    return post;
  }

  /** Sheet 0 of 8 bits: 10 .. 14; 1 of 16 bits: 20 .. 22; 2 of 32 bits: 30, 31; 3 is missing. */
  private static void fillSheets(KitePost post) {
    for (int sheet = 0; sheet < 3; sheet++) {
      int n = new int[] {5, 3, 2}[sheet];
      post.sheet(sheet, 8 << sheet, n);
      for (int i = 0; i < n; i++) {
        post.put(sheet, i, 10 + 10 * sheet + i);
      }
    }
  }

  static KitePost nineHills() {
    KitePost post = busy();
    for (int i = 4; i < 9; i++) {
      post.hill(xy(i, 15), 9);
    }
    return post;
  }

  static KitePost eightKites() {
    KitePost post = busy();
    for (int i = 3; i < 8; i++) {
      post.kite(10 * i % 70, 3, 1 + i);
    }
    return post;
  }

  static KitePost twelveLetters() {
    KitePost post = busy();
    for (int i = 4; i < 12; i++) {
      post.letter(3, 2, i, i - 1);
    }
    return post;
  }

  static KitePost fullTape() {
    KitePost post = busy();
    Due.feed(post, "+1".repeat(24).substring(1));
    return post;
  }

  static KitePost twentyWait() {
    KitePost post = busy();
    for (int i = 3; i < 20; i++) {
      post.tell(i);
    }
    return post;
  }

  /** 9 hills, 8 kites with aims, 12 letters, 50 bytes, 20 numbers that wait. */
  static KitePost full() {
    KitePost post = hills(0, 16, 32, 48, 64, 80, 96, 112, 128);
    for (int i = 0; i < 8; i++) {
      post.kite(10 * (i % 7) + i, i, 100 * (90 + i) + 33 + i);
      post.aim(i, i + 1);
    }
    for (int i = 0; i < 12; i++) {
      post.letter(i % 9, (i + 4) % 9, 30 - i, i - 1);
    }
    Due.feed(post, "h+5" + "+1".repeat(23) + "0");
    for (int i = 0; i < 20; i++) {
      post.tell(100 - i);
    }
    return post;
  }

  static KitePost lastTime() {
    KitePost post = busy();
    until(post, 9999);
    return post;
  }
}
