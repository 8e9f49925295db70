/** Promises 12 to 14: the tape, texts and their faults, laws. */
public final class TextsTest {
  private static final Due due = new Due();

  public static void main(String[] args) {
    feed();
    textAnswers();
    faults();
    openOnes();
    values();
    laws();
    due.end();
  }

  private static void feed() {
    KitePost post = new KitePost();
    due.is("n 0", post.feed(1, 0), Due.BEYOND);
    due.is("n 9", post.feed(1, 9), Due.BEYOND);
    due.is("n below", post.feed(1, -1), Due.BEYOND);
    due.is("one byte", post.feed('1', 1), 1);
    due.is("only the lowest bytes", post.feed(0x7a7a7a00L + '+', 1), 2);
    due.is("lowest first", post.feed('4' | '2' << 8 | 0x30L << 16, 2), 4);
    due.is("read so", post.text(0), 1);
    due.is("1+42", post.law(0, 0, 0, 0, 0), 43);
    due.is("the tape is empty then", post.count(6), 0);
    for (int i = 1; i <= 6; i++) {
      due.is("eight bytes", post.feed(-1L, 8), 8 * i);
    }
    due.is("51 are too many", post.feed(0, 3), Due.FULL);
    due.is("BEYOND ahead of FULL", post.feed(0, 9), Due.BEYOND);
    due.is("nothing came by errors", post.count(6), 48);
    due.is("50 are not", post.feed(0, 2), 50);
    due.is("one more is", post.feed(0, 1), Due.FULL);
  }

  private static void textAnswers() {
    KitePost post = new KitePost();
    due.is("fed", Due.feed(post, "7"), 1);
    due.is("use below", post.text(-1), Due.BEYOND);
    due.is("use above", post.text(2), Due.BEYOND);
    due.is("the tape stays by BEYOND", post.count(6), 1);
    due.is("a text", post.text(0), 1);
    due.is("in place of none", post.law(0, 0, 0, 0, 0), 7);
    due.is("another", Due.read(post, 0, "8"), 1);
    due.is("in place of one ahead", post.law(0, 0, 0, 0, 0), 8);
    due.is("a fault", Due.read(post, 0, "9)"), -11);
    due.is("the tape is empty by a fault", post.count(6), 0);
    due.is("the one ahead stays", post.law(0, 0, 0, 0, 0), 8);
    due.is("a fault is no error", post.told(1), 2);
    due.is("an empty tape ends too early", post.text(0), -10);
    due.is("the other use is as it was", post.law(1, 0, 5, 0, 0), 6);
    String longest = "1+1+1+1+1+1+1+1+1+1+1+1+1+1+1+1+1+1+1+1+1+1+1+1+10";
    due.is("50 bytes", Due.read(post, 0, longest), 1);
    due.is("their sum", post.law(0, 0, 0, 0, 0), 34);
  }

  private static void fault(int use, String text, int place) {
    due.is("fault of " + text, Due.read(new KitePost(), use, text), place < 0 ? 1 : -10 - place);
  }

  private static void faults() {
    fault(0, "1234", -1);
    fault(0, "12345", 4);
    fault(0, "00001", 4);
    fault(0, "1+", 2);
    fault(0, "+1", 0);
    fault(0, "-1", 0);
    fault(0, "1++1", 2);
    fault(0, "1 +1", 1);
    fault(0, "fd", 1);
    fault(0, "f1", 1);
    fault(0, "1f", 1);
    fault(0, "h", 0);
    fault(0, "f+w", 2);
    fault(0, "k", -1);
    fault(1, "h+w", -1);
    fault(1, "f", 0);
    fault(1, "k", 0);
    fault(0, "1<2", -1);
    fault(0, "1<2<3", 3);
    fault(0, "1=2>3", 3);
    fault(0, "(1<2)<3", -1);
    fault(0, "1<2&3<4|5=6", -1);
    fault(0, "(1<2<3)", 4);
    fault(0, "()", 1);
    fault(0, "(1", 2);
    fault(0, "(1))", 3);
    fault(0, ")", 0);
    fault(0, "!", 1);
    fault(0, "!!", 2);
    fault(0, "1!", 1);
    fault(0, "!)", 1);
    fault(0, "(1)2", 3);
    fault(0, "(1)(", 3);
    fault(0, "1|", 2);
    fault(0, "1||1", 2);
    fault(0, "1<=2", 2);
    fault(0, "F", 0);
    fault(0, "1" + (char) 0, 1);
    fault(0, "" + (char) 255, 0);
    fault(0, "1" + (char) ('1' + 128), 1);
  }

  private static void openOnes() {
    fault(0, "(((((1)))))", -1);
    fault(0, "((((((1))))))", 5);
    fault(0, "!!!!!1", -1);
    fault(0, "!!!!!!1", 5);
    fault(0, "!(!(!1))", -1);
    fault(0, "!(!(!(1)))", 5);
    fault(0, "!!!!(!1)", 5);
    fault(0, "!!!!!1+!!!!!1", -1);
    fault(0, "!!!!!1+!!!!!!1", 12);
    fault(0, "(!1+!2)*((((1))))", -1);
    fault(0, "((((!1+!(2)))))", 8);
    fault(0, "((((!12+!2))))", -1);
    fault(0, "((((!(1)+!2))))", 5);
    fault(0, "!(1)+!!!!(2)", -1);
    fault(0, "(((((", 5);
    fault(0, "(((((1))))", 10);
  }

  private static void value(String text, int want) {
    KitePost post = new KitePost();
    due.is("read " + text, Due.read(post, 0, text), 1);
    due.is("value of " + text, post.law(0, 7, -3, Integer.MIN_VALUE, -1), want);
  }

  private static void values() {
    value("1+2*3", 7);
    value("(1+2)*3", 9);
    value("10-3-2", 5);
    value("2-3+4", 3);
    value("48/4/3", 4);
    value("7/2*2", 6);
    value("2*7/2", 7);
    value("7%4*2", 6);
    value("d/2", -1);
    value("d%2", -1);
    value("f/d", -2);
    value("f%d", 1);
    value("f/0", 0);
    value("f%0", 0);
    value("f/(1-1)", 0);
    value("(l/k)=l", 1);
    value("l%k", 0);
    value("l-1>0", 1);
    value("l*2", 0);
    value("!0", 1);
    value("!7", 0);
    value("!!7", 1);
    value("!f+1", 1);
    value("!0*5", 5);
    value("0|0", 0);
    value("5|0", 1);
    value("d", -3);
    value("d&k", 1);
    value("5&0", 0);
    value("0&1|1", 1);
    value("1|1&0", 1);
    value("(1|1)&0", 0);
    value("1&2&3", 1);
    value("0|0|9", 1);
    value("1+1=2", 1);
    value("1+(1=2)", 1);
    value("3<4", 1);
    value("4<4", 0);
    value("4>4", 0);
    value("5>4", 1);
    value("d<k", 1);
    value("1<2&2<1", 0);
    value("1<2|2<1", 1);
    value("0050", 50);
    value("9999*9999*9999/9999/9999", -10);
    value("50+49", 99);
    value("50+50", 99);
    value("0-99", -99);
    value("0-100", -99);
  }

  private static void laws() {
    KitePost post = new KitePost();
    due.is("use below", post.law(-1, 0, 0, 0, 0), Due.BEYOND);
    due.is("use above", post.law(2, 0, 0, 0, 0), Due.BEYOND);
    due.is("LIFTS without a text", post.law(0, 1, 2, 3, 4), 0);
    due.is("PAYS without a text", post.law(1, 50, 30, 3, 4), 31);
    due.is("PAYS without, held below", post.law(1, 0, -2, 0, 0), 0);
    due.is("PAYS without, held above", post.law(1, 0, 999, 0, 0), 999);
    due.is("PAYS without, as w+1 wraps", post.law(1, 0, Integer.MAX_VALUE, 0, 0), 0);
    post.image();
    Due.read(post, 0, "77");
    Due.read(post, 1, "78");
    due.is("LIFTS with one", post.law(0, 1, 2, 3, 4), 77);
    due.is("PAYS with one", post.law(1, 1, 2, 3, 4), 78);
    post.restore();
    due.is("LIFTS without one again", post.law(0, 1, 2, 3, 4), 0);
    due.is("PAYS without one again", post.law(1, 50, 30, 3, 4), 31);
    Due.read(post, 0, "f-d*2+l*3-k*4");
    due.is("names of LIFTS in order", post.law(0, 1, 2, 3, 4), 1 - 4 + 9 - 16);
    Due.read(post, 1, "h*10+w");
    due.is("names of PAYS in order", post.law(1, 4, 2, 3, 4), 42);
    due.is("PAYS held below", post.law(1, -4, 2, 0, 0), 0);
    due.is("PAYS held above", post.law(1, 99, 10, 0, 0), 999);
    due.is("PAYS at its most", post.law(1, 99, 9, 0, 0), 999);
  }
}
