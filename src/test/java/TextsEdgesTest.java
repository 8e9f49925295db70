/** The edges of Terms 2, promises 12 to 14: the tape, every byte where a text may go on, what is open, ints, holds. */
public final class TextsEdgesTest {
  private static final int MIN = Integer.MIN_VALUE;
  private static final int MAX = Integer.MAX_VALUE;
  private static final String SIGNS = "|&<=>+-*/%";
  private static final String[] NAMES = {"fdlk", "hw"};

  private static final Due due = new Due();

  public static void main(String[] args) {
    fiftyBytes();
    bytesOfAWord();
    whatBecomesOfTheTape();
    everyByte();
    digits();
    openAtOnce();
    textsOfFiftyBytes();
    byNothing();
    intsThatWrap();
    quotientsAreCut();
    truths();
    heldWithin();
    lawsWithoutATextAndBack();
    due.end();
  }

  private static void fiftyBytes() {
    int[][] fed = {{42, 8}, {43, 7}, {44, 6}, {49, 1}};
    for (int[] row : fed) {
      KitePost post = new KitePost();
      Due.feed(post, "1".repeat(row[0]));
      if (row[1] < 8) {
        due.is(row[0] + " bytes and one too many", post.feed(-1L, row[1] + 1), Due.FULL);
      }
      due.is("none of them came", post.count(6), row[0]);
      due.is(row[0] + " bytes and " + row[1], post.feed(-1L, row[1]), 50);
      due.is("one more", post.feed('1', 1), Due.FULL);
      due.is("eight more", post.feed('1', 8), Due.FULL);
      due.is("still 50", post.count(6), 50);
      due.is("a number of 5 digits, whatever follows", post.text(0), -14);
      due.is("then it is empty, and takes some", post.feed('1', 8), 8);
    }
  }

  private static void bytesOfAWord() {
    KitePost post = new KitePost();
    due.is("8 bytes, the lowest first", post.feed(0x39_2b_37_2b_32_2b_31_28L, 8), 8); // (1+2+7+9
    due.is("1 of 8", post.feed(0x38_38_38_38_38_38_38_29L, 1), 9);
    due.is("a text", post.text(0), 1);
    due.is("(1+2+7+9)", post.law(0, 0, 0, 0, 0), 19);
    due.is("7 of 8", post.feed(0xff_35_2b_35_2b_35_2b_35L, 7), 7);
    due.is("a text of them", post.text(0), 1);
    due.is("5+5+5+5", post.law(0, 0, 0, 0, 0), 20);
    due.is("a word below 0", post.feed(-1L, 8), 8);
    due.is("none of its bytes begins a text", post.text(0), -10);
    due.is("a word of 0", post.feed(0, 8), 8);
    due.is("nor does a byte 0", post.text(0), -10);
    due.is("the least word", post.feed(Long.MIN_VALUE + '6', 1), 1);
    due.is("its lowest byte", post.text(0) * 100 + post.law(0, 0, 0, 0, 0), 106);
  }

  private static void whatBecomesOfTheTape() {
    KitePost post = new KitePost();
    Due.feed(post, "4+4");
    due.is("no such use", post.text(2), Due.BEYOND);
    due.is("nor that", post.text(-1), Due.BEYOND);
    due.is("the tape stays, byte by byte", post.text(0) * 100 + post.law(0, 0, 0, 0, 0), 108);
    due.is("an empty tape ends too early", post.text(0), -10);
    due.is("the one ahead stays", post.law(0, 0, 0, 0, 0), 8);
    due.is("a text for the other use", Due.read(post, 1, "h"), 1);
    due.is("a fault of it", Due.read(post, 1, "h+f"), -12);
    due.is("the tape is empty", post.count(6), 0);
    due.is("the one ahead of it stays", post.law(1, 500, 0, 0, 0), 500);
    due.is("and that of the other use", post.law(0, 0, 0, 0, 0), 8);
    due.is("no fault is an ERROR", post.told(1), 2);
    due.is("nor any other", post.told(2) + post.told(3) + post.told(4) + post.told(5), 0);
  }

  /** What text() answers to a text of which the last byte is b. */
  private static void lastByte(int use, String ahead, int b, int want) {
    int got = Due.read(new KitePost(), use, ahead + (char) b);
    due.is("use " + use + ", byte " + b + " behind '" + ahead + "'", got, want);
  }

  /** A byte that ends the text well, one with which it could go on, or one with which it can't. */
  private static int answer(String ahead, boolean ends, boolean goesOn) {
    return ends ? 1 : -10 - ahead.length() - (goesOn ? 1 : 0);
  }

  private static void everyByte() {
    for (int use = 0; use < 2; use++) {
      for (int b = 0; b < 256; b++) {
        boolean digit = b >= '0' && b <= '9';
        boolean name = NAMES[use].indexOf((char) b) >= 0;
        boolean sign = SIGNS.indexOf((char) b) >= 0;
        boolean opens = b == '!' || b == '(';
        for (String ahead : new String[] {"", "1+", "1|", "1&2*", "1<", "!", "1%!"}) {
          lastByte(use, ahead, b, answer(ahead, digit || name, opens));
        }
        lastByte(use, "(", b, answer("(", false, digit || name || opens));
        lastByte(use, "1", b, answer("1", digit, sign));
        lastByte(use, "1234", b, answer("1234", false, sign));
        lastByte(use, "(1)", b, answer("(1)", false, sign));
        String one = NAMES[use].substring(1, 2);
        lastByte(use, one, b, answer(one, false, sign));
        lastByte(use, "(" + one, b, answer("(1", b == ')', sign));
        lastByte(use, "(1", b, answer("(1", b == ')', digit || sign));
        lastByte(use, "1<2", b, answer("1<2", digit, sign && b != '<' && b != '=' && b != '>'));
      }
    }
  }

  private static void fault(String text, int place) {
    due.is("fault of " + text, Due.read(new KitePost(), 0, text), place < 0 ? 1 : -10 - place);
  }

  private static void digits() {
    fault("0", -1);
    fault("9999", -1);
    fault("0000", -1);
    fault("00000", 4);
    fault("10000", 4);
    fault("1+9999", -1);
    fault("1+10000", 6);
    fault("(12345)", 5);
    fault("!12345", 5);
    fault("1234f", 4);
    fault("1<2<", 3);
    fault("1<2+3<4", 5);
    fault("1<2&3<4=5", 7);
    fault("1<(2<3)", -1);
  }

  private static void openAtOnce() {
    for (int n = 1; n <= 6; n++) {
      for (int kinds = 0; kinds < 1 << n; kinds++) {
        StringBuilder text = new StringBuilder();
        for (int i = 0; i < n; i++) {
          text.append((kinds >> i & 1) == 0 ? '!' : '(');
        }
        text.append('1').append(")".repeat(Integer.bitCount(kinds)));
        fault(text.toString(), n <= 5 ? -1 : 5);
      }
    }
    fault("!!!!!1&!!!!!1", -1);
    fault("(((((1)))))*(((((1)))))", -1);
    fault("((((1)+(1))+(1))+!1)", -1);
    fault("!!!!(1+!1)", 7);
    fault("!!!(1+!1)", -1);
    fault("!!!!!(1)", 5);
    fault("(((((!1)))))", 5);
    fault("(((((1))))", 10);
    fault("(((((1))))))", 11);
  }

  private static void textsOfFiftyBytes() {
    String sum = "1+".repeat(24) + "1"; // 49 bytes
    fault(sum + "0", -1);
    fault(sum + "+", 50);
    fault(sum + ")", 49);
    fault("(" + sum, 50);
    fault("(".repeat(50), 5);
    fault("!".repeat(50), 5);
    for (String inmost : new String[] {"1", "0"}) {
      String deep = "0|1&0<1*(".repeat(4) + inmost + ")".repeat(4);
      value(deep, Integer.parseInt(inmost));
    }
    value("1|1&1<1+1*(".repeat(4) + "1" + ")".repeat(4), 1);
  }

  /** f 7, d the least int, l the greatest, k -1. */
  private static void value(String text, int want) {
    KitePost post = new KitePost();
    due.is("read " + text, Due.read(post, 0, text), 1);
    due.is("value of " + text, post.law(0, 7, MIN, MAX, -1), want);
  }

  private static void byNothing() {
    value("7/0", 0);
    value("7%0", 0);
    value("d/0", 0);
    value("d%0", 0);
    value("0/0", 0);
    value("0%0", 0);
    value("f/(f-7)", 0);
    value("f%(f-7)", 0);
    value("5+f/0", 5);
    value("5+f%0*9", 5);
    value("f/!f", 0);
    value("f/(1/2)", 0);
  }

  private static void intsThatWrap() {
    value("l+1=d", 1);
    value("d-1=l", 1);
    value("l+l", -2);
    value("l*2", -2);
    value("d*2", 0);
    value("d*k=d", 1);
    value("0-d=d", 1);
    value("d/k=d", 1);
    value("d%k", 0);
    value("l*l", 1);
    value("d*d", 0);
    value("d<l", 1);
    value("d-1>l-1", 1);
    value("l-d", -1);
    value("9999*9999*43/1000", 99);
    value("9999*9999*43/1000=4172", 1);
    value("9999*9999*22<0", 1);
    value("9999*9999*21>0", 1);
  }

  private static void quotientsAreCut() {
    value("f/2", 3);
    value("(0-f)/2", -3);
    value("f/(0-2)", -3);
    value("(0-f)/(0-2)", 3);
    value("(0-1)/2", 0);
    value("f%2", 1);
    value("(0-f)%2", -1);
    value("f%(0-2)", 1);
    value("(0-f)%(0-2)", -1);
    value("(0-6)%3", 0);
    value("f%8", 7);
    value("f/8", 0);
  }

  private static void truths() {
    value("!k", 0);
    value("!d", 0);
    value("!0", 1);
    value("!!d", 1);
    value("k&d", 1);
    value("k&0", 0);
    value("0&k", 0);
    value("k|0", 1);
    value("0|d", 1);
    value("0|0", 0);
    value("f=7", 1);
    value("f<7", 0);
    value("f>7", 0);
    value("f>6", 1);
    value("f<8", 1);
    value("k<0", 1);
    value("k>0", 0);
    value("5&6|0", 1);
    value("(f>6)+(f>5)", 2);
  }

  private static void heldWithin() {
    KitePost post = new KitePost();
    Due.read(post, 0, "f");
    int[][] lifts = {{MIN, -99}, {-100, -99}, {-99, -99}, {-98, -98}, {0, 0}, {98, 98}, {99, 99}, {100, 99}, {MAX, 99}};
    for (int[] row : lifts) {
      due.is("LIFTS " + row[0], post.law(0, row[0], 0, 0, 0), row[1]);
    }
    int[][] without = {{MIN, 0}, {-2, 0}, {-1, 0}, {0, 1}, {997, 998}, {998, 999}, {999, 999}, {MAX - 1, 999}, {MAX, 0}};
    for (int[] row : without) {
      due.is("PAYS without a text " + row[0], post.law(1, 0, row[0], 0, 0), row[1]);
    }
    Due.read(post, 1, "h");
    int[][] pays = {{MIN, 0}, {-1, 0}, {0, 0}, {1, 1}, {998, 998}, {999, 999}, {1000, 999}, {MAX, 999}};
    for (int[] row : pays) {
      due.is("PAYS " + row[0], post.law(1, row[0], 5, 5, 5), row[1]);
    }
    Due.read(post, 0, "l");
    due.is("the third of four names", post.law(0, 1, 2, 3, 4), 3);
    Due.read(post, 0, "k");
    due.is("the fourth of four names", post.law(0, 1, 2, 3, 4), 4);
  }

  private static void lawsWithoutATextAndBack() {
    KitePost post = new KitePost();
    for (int v : new int[] {MIN, -1, 0, 1, MAX}) {
      due.is("LIFTS without a text " + v, post.law(0, v, v, v, v), 0);
    }
    due.is("use 2", post.law(2, 0, 0, 0, 0), Due.BEYOND);
    post.image();
    Due.read(post, 0, "1");
    post.restore();
    due.is("without one again", post.law(0, 9, 9, 9, 9), 0);
    Due.read(post, 0, "2");
    post.image();
    Due.read(post, 0, "3+");
    post.restore();
    due.is("the image's text", post.law(0, 9, 9, 9, 9), 2);
  }
}
