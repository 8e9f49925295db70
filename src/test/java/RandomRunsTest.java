import java.lang.reflect.Method;
import java.lang.reflect.Modifier;
import java.util.ArrayList;
import java.util.Arrays;
import java.util.Comparator;
import java.util.HashMap;
import java.util.List;
import java.util.Map;
import java.util.Random;

/**
 * Runs of up to 512 calls, drawn by fixed seeds, on KitePost and on PlainPost: every answer must be
 * the same. Arguments: how many runs, and the first seed.
 */
public final class RandomRunsTest {
  private static final int[] EDGES = {
    -1, 0, 1, 2, 5, 6, 7, 8, 9, 10, 11, 12, 13, 20, 23, 24, 30, 31, 39, 40, 41, 50, 69, 70, 71, 72, 73, 79, 80, 99,
    100, 255, 256, 999, 1000, 1010, 1011, 9999, 10000, -2, -10, -100, Integer.MAX_VALUE, Integer.MIN_VALUE
  };

  private final Random random;
  private final KitePost kitePost = new KitePost();
  private final PlainPost plain = new PlainPost();
  private final Map<String, Integer> wanted;
  private final List<String> told = new ArrayList<>();
  private byte[] text = new byte[0];
  private int fed;
  private final boolean wild;
  private final boolean longTime;
  private final int mostHills;
  private final int mostKites;

  private RandomRunsTest(long seed, Map<String, Integer> reached) {
    random = new Random(seed);
    wanted = reached;
    wild = seed % 7 == 0;
    longTime = seed % 11 == 0;
    mostHills = seed % 3 == 0 ? 20 : 3 + below(6);
    mostKites = seed % 3 == 0 ? 20 : 2 + below(6);
  }

  private int below(int n) {
    return random.nextInt(n);
  }

  private int edge() {
    return below(4) == 0 ? random.nextInt() : EDGES[below(EDGES.length)];
  }

  /** Mostly from 0 on below n; now and then just beyond, or anything. */
  private int near(int n) {
    int kind = below(wild ? 8 : 60);
    if (kind == 0) return edge();
    if (kind == 1) return below(n + 2) - 1;
    return n > 0 ? below(n) : edge();
  }

  private int hillNumber() {
    return near(Math.max(1, plain.w.hills.size()));
  }

  private int kiteNumber() {
    return near(Math.max(1, plain.w.kites.size()));
  }

  private int letterNumber() {
    return near(Math.max(1, plain.w.letters.size()));
  }

  private int load() {
    return below(3) == 0 ? near(1000) : near(60);
  }

  private int place() {
    return below(2) == 0 ? near(256) : 34 * below(8) % 256 & 0xee;
  }

  private int ways() {
    return 10 * hillNumber() + hillNumber();
  }

  private String oneText(int depth, String names) {
    switch (below(depth > 4 ? 2 : 6)) {
      case 0: return String.valueOf(below(2) == 0 ? below(10) : below(12000));
      case 1: return String.valueOf(names.charAt(below(names.length())));
      case 2: return "!" + oneText(depth + 1, names);
      case 3: return "(" + oneText(depth + 1, names) + ")";
      default: return oneText(depth + 1, names) + "|&<=>+-*/%+-*".charAt(below(13)) + oneText(depth + 1, names);
    }
  }

  private void newText() {
    StringBuilder b = new StringBuilder(oneText(0, below(2) == 0 ? "fdlk" : "hw"));
    if (below(2) == 0) {
      for (int i = below(3); i >= 0; i--) {
        char c = "|&<=>+-*/%!()fdlkhw0123456789 \0\u00ff".charAt(below(32));
        int at = below(b.length() + 1);
        if (below(2) == 0 && at < b.length()) b.setCharAt(at, c);
        else b.insert(at, c);
      }
    }
    String s = b.substring(0, Math.min(50, b.length()));
    text = s.getBytes(java.nio.charset.StandardCharsets.ISO_8859_1);
    fed = 0;
  }

  private Object[] feedArguments() {
    if (fed >= text.length) newText();
    int n = Math.min(8, text.length - fed);
    long word = below(2) == 0 ? random.nextLong() : 0;
    if (n < 8) word = n == 0 ? word : word << (8 * n);
    for (int i = 0; i < n; i++) {
      long mask = 255L << (8 * i);
      word = word & ~mask | (text[fed + i] & 255L) << (8 * i);
    }
    fed += n;
    return new Object[] {word, below(40) == 0 ? edge() : n};
  }

  private Object[] arguments(String name) {
    int kite = kiteNumber();
    switch (name) {
      case "hill": return row(place(), near(10));
      case "ofHill": return row(hillNumber(), near(3));
      case "wind": return row(near(24), near(80));
      case "kite": return row(near(70), hillNumber(), 100 * (below(4) == 0 ? near(100) : 20 + near(80)) + (below(4) == 0 ? near(41) : 12 + near(29)));
      case "ofKite": return row(kite, near(6));
      case "as": return row(kite, near(7));
      case "aim": return row(kite, hillNumber());
      case "pull", "stands": return row(kite, hillNumber(), load());
      case "over": return row(kite, near(24), load());
      case "feed": return feedArguments();
      case "text", "lines": return row(near(2));
      case "law": return row(near(2), number(), number(), number(), number());
      case "cross": return row(kite, kiteNumber());
      case "letter": return row(hillNumber(), hillNumber(), below(2) == 0 ? near(31) : near(6), below(3) == 0 ? -1 : letterNumber());
      case "ofLetter": return row(letterNumber(), near(7));
      case "hours": return row(longTime ? 72 - below(2) * below(3) : below(3) == 0 ? near(73) : 1 + below(3));
      case "loose": return row(below(3) == 0 ? near(73) : 1 + below(9), near(11));
      case "then": return row(near(73), near(2));
      case "where": return row(near(73), letterNumber(), 5 + near(2));
      case "soonest": return row(hillNumber(), hillNumber(), load());
      case "sure": return row(ways(), load(), 100 * near(11) + near(11), near(2));
      case "best": return row(kite, near(73));
      case "fresh": return row(hillNumber(), hillNumber(), load(), near(2));
      case "order": return row(near(2), near(6));
      case "seed", "tell": return row(below(2) == 0 ? hillNumber() : edge());
      case "voice": return row(kite, near(4), number());
      case "trace": return row(near(12));
      case "sheet": return row(near(4), new int[] {8, 8, 8, 16, 32, 0, 7}[below(7)], near(41));
      case "put": return row(near(4), near(41), below(4) == 0 ? random.nextInt() : near(80));
      case "move": return row(near(4), near(20), near(4), near(20), near(20));
      case "winds": return row(near(4));
      case "check": return row(letterNumber());
      case "count": return row(near(10));
      case "told": return row(1 + near(5));
      default: return row();
    }
  }

  private int number() {
    return below(3) == 0 ? edge() : below(40);
  }

  private static Object[] row(int... v) {
    return Arrays.stream(v).boxed().toArray();
  }

  private boolean runs(List<Method> face) throws Exception {
    int calls = 150 + below(362);
    List<String> often = new ArrayList<>();
    for (Method m : face) {
      int weight = switch (m.getName()) {
        case "sure", "fresh", "best" -> 2;
        case "restore", "image" -> 1;
        case "feed" -> 16;
        case "letter", "aim", "put", "hours", "wind", "sheet" -> 10;
        case "tell" -> longTime ? 30 : 6;
        case "check" -> longTime ? 1 : 4;
        default -> 4;
      };
      for (int i = 0; i < weight; i++) often.add(m.getName());
    }
    for (int i = 0; i < calls; i++) {
      String name = nameOfCall(i, often);
      Method method = face.stream().filter(m -> m.getName().equals(name)).findFirst().get();
      if (!sameAnswer(method, arguments(name))) return false;
    }
    return true;
  }

  /** First hills, winds, kites, aims, letters, so that the calls behind them find something. */
  private String nameOfCall(int i, List<String> often) {
    String name = i < 10 ? "hill" : i < 34 ? "wind" : i < 42 ? "kite" : i < 54 ? "aim" : i < 62 ? "letter" : "";
    if (i >= 62 || below(5) == 0) name = often.get(below(often.size()));
    if (longTime && below(2) == 0 && i > 62) name = "hours";
    if (name.equals("hill") && plain.w.hills.size() >= mostHills) return "soonest";
    if (name.equals("kite") && plain.w.kites.size() >= mostKites) return "lines";
    return name;
  }

  private boolean sameAnswer(Method method, Object[] args) throws Exception {
    long want = ((Number) PlainPost.class.getMethod(method.getName(), method.getParameterTypes()).invoke(plain, args)).longValue();
    String call = method.getName() + Arrays.toString(args);
    long got;
    try {
      got = ((Number) method.invoke(kitePost, args)).longValue();
    } catch (java.lang.reflect.InvocationTargetException e) {
      System.out.println(told);
      System.out.println(call + " threw " + e.getCause());
      return false;
    }
    told.add(call + " " + got);
    wanted.merge(method.getName() + " " + (want <= PlainPost.LOW - 1 && want >= PlainPost.LOW - 5 ? want : "answers"), 1, Integer::sum);
    if (got == want) return true;
    System.out.println(told);
    System.out.println(call + " answered " + got + ", due is " + want);
    return false;
  }

  public static void main(String[] args) throws Exception {
    int runs = args.length > 0 ? Integer.parseInt(args[0]) : 400;
    long first = args.length > 1 ? Long.parseLong(args[1]) : 1;
    List<Method> face = new ArrayList<>();
    for (Method m : KitePost.class.getDeclaredMethods()) if (Modifier.isPublic(m.getModifiers())) face.add(m);
    face.sort(Comparator.comparing(Method::getName));
    Map<String, Integer> reached = new HashMap<>();
    int wrong = 0;
    for (long seed = first; seed < first + runs && wrong < 3; seed++) {
      if (!new RandomRunsTest(seed, reached).runs(face)) {
        System.out.println("run of seed " + seed + " went wrong");
        wrong++;
      }
    }
    if (args.length > 2) reached.entrySet().stream().sorted(Map.Entry.comparingByKey()).forEach(System.out::println);
    System.out.println(wrong == 0 ? runs + " runs, all answers alike" : wrong + " runs went wrong");
    if (wrong != 0) System.exit(1);
  }
}
