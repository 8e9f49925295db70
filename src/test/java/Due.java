/** What the tests share: counts answers that are not as due, and ends the program by them. */
public final class Due {
  static final int BEYOND = -1000000001;
  static final int NONE = -1000000002;
  static final int STATE = -1000000003;
  static final int FULL = -1000000004;
  static final int KIND = -1000000005;

  private int asked;
  private int wrong;

  void is(String what, long got, long want) {
    asked++;
    if (got != want) {
      wrong++;
      System.out.println(what + ": answered " + got + ", due is " + want);
    }
  }

  void holds(String what, boolean truth) {
    is(what, truth ? 1 : 0, 1);
  }

  /** Feeds a text to the tape, eight bytes a call at most; the last answer of feed(). */
  static int feed(KitePost post, String text) {
    int answer = 0;
    for (int at = 0; at < text.length(); at += 8) {
      int n = Math.min(8, text.length() - at);
      long word = 0;
      for (int i = 0; i < n; i++) {
        word |= (text.charAt(at + i) & 255L) << (8 * i);
      }
      answer = post.feed(word, n);
    }
    return answer;
  }

  /** Feeds a text and makes it that of a use; the answer of text(). */
  static int read(KitePost post, int use, String text) {
    feed(post, text);
    return post.text(use);
  }

  void end() {
    System.out.println(asked + " answers, " + wrong + " not as due");
    if (wrong != 0) {
      System.exit(1);
    }
  }
}
