import java.math.BigInteger;
import java.util.ArrayList;
import java.util.Arrays;
import java.util.Comparator;
import java.util.List;
import java.util.TreeSet;

/**
 * The document once more, in the plainest way and by other means than KitePost: with the whole
 * library, by trying out all cases, without care for time or room. RandomRunsTest holds both
 * against each other.
 */
public final class PlainPost {
  static final int LOW = -1000000000;

  record Hill(int x, int y, int high) {}

  record Kite(int kind, int m, int home, int lift, int line) {}

  static final class Letter {
    int from, to, weight, answer, written, on, arrived = -1;

    Letter copy() {
      Letter l = new Letter();
      l.from = from; l.to = to; l.weight = weight; l.answer = answer;
      l.written = written; l.on = on; l.arrived = arrived;
      return l;
    }
  }

  /** What an image keeps. */
  static final class World {
    List<Hill> hills = new ArrayList<>();
    int[] dir = new int[24];
    int[] force = new int[24];
    List<Kite> kites = new ArrayList<>();
    List<Integer> aims = new ArrayList<>();
    List<Letter> letters = new ArrayList<>();
    List<Integer> order = new ArrayList<>();
    String tape = "";
    List<Integer> waiting = new ArrayList<>();
    String[] texts = {null, null};
    int now, paid, z = 1;

    World() {
      Arrays.fill(force, 3);
    }

    World copy() {
      World w = new World();
      w.hills.addAll(hills);
      w.dir = dir.clone();
      w.force = force.clone();
      w.kites.addAll(kites);
      w.aims.addAll(aims);
      for (Letter l : letters) w.letters.add(l.copy());
      w.order.addAll(order);
      w.tape = tape;
      w.waiting.addAll(waiting);
      w.texts = texts.clone();
      w.now = now; w.paid = paid; w.z = z;
      return w;
    }
  }

  static final class Sheet {
    int bits;
    long[] numbers;
  }

  World w = new World();
  World kept;
  int images;
  int[] told = new int[6];
  List<Integer> trace = new ArrayList<>();
  Sheet[] sheets = new Sheet[4];

  int fail(int k) {
    told[k]++;
    return LOW - k;
  }

  boolean noHill(int h) { return h < 0 || h >= w.hills.size(); }
  boolean noKite(int k) { return k < 0 || k >= w.kites.size(); }
  boolean noLetter(int l) { return l < 0 || l >= w.letters.size(); }

  // ---- hills, wind, kites

  public int hill(int xy, int high) {
    if (xy < 0 || xy > 255 || high < 0 || high > 9) return fail(1);
    for (Hill h : w.hills) if (h.x == xy >> 4 && h.y == (xy & 15)) return fail(3);
    if (w.hills.size() == 9) return fail(4);
    w.hills.add(new Hill(xy >> 4, xy & 15, high));
    return w.hills.size() - 1;
  }

  public int ofHill(int hill, int what) {
    if (noHill(hill) || what < 0 || what > 2) return fail(1);
    Hill h = w.hills.get(hill);
    if (what == 0) return 16 * h.x + h.y;
    if (what == 1) return h.high;
    int bits = 0;
    for (int i = 0; i < w.letters.size(); i++) {
      Letter l = w.letters.get(i);
      if (l.on == hill && l.arrived == -1) bits += 1 << i;
    }
    return bits;
  }

  public int wind(int hour, int df) {
    if (hour < 0 || hour > 23 || df < 0 || df > 79) return fail(1);
    int was = 10 * w.dir[hour] + w.force[hour];
    w.dir[hour] = df / 10;
    w.force[hour] = df % 10;
    return was;
  }

  public int kite(int km, int home, int ll) {
    if (km < 0 || km > 69 || noHill(home) || ll < 0 || ll / 100 > 99 || ll % 100 < 1 || ll % 100 > 40) return fail(1);
    if (w.kites.size() == 8) return fail(4);
    w.kites.add(new Kite(km / 10, km % 10, home, ll / 100, ll % 100));
    w.aims.add(-1);
    return w.kites.size() - 1;
  }

  public int ofKite(int kite, int what) {
    if (noKite(kite) || what < 0 || what > 5) return fail(1);
    Kite k = w.kites.get(kite);
    return new int[] {k.kind, k.m, k.home, k.lift, k.line, w.aims.get(kite)}[what];
  }

  static final int[] ABOVE = {-1, 0, 0, 0, 1, 2, 3};

  public int as(int kite, int kind) {
    if (noKite(kite) || kind < 0 || kind > 6) return fail(1);
    for (int k = w.kites.get(kite).kind; k != -1; k = ABOVE[k]) if (k == kind) return w.kites.get(kite).lift;
    return fail(5);
  }

  public int aim(int kite, int hill) {
    if (noKite(kite) || (hill != -1 && noHill(hill))) return fail(1);
    if (w.kites.get(kite).home == hill) return fail(3);
    return w.aims.set(kite, hill);
  }

  static int far(Hill a, Hill b) { return Math.abs(a.x - b.x) + Math.abs(a.y - b.y); }

  static int pullOf(World w, int kite, int hill, int load, int hour, int days) {
    Kite k = w.kites.get(kite);
    Hill home = w.hills.get(k.home), h = w.hills.get(hill);
    int f = w.force[hour];
    int plain = k.lift + f + f - load;
    if (h.high > home.high) plain -= 3 * (h.high - home.high);
    int boxed = plain - (f < 3 ? 9 : 0);
    int tailed = plain - f;
    int silk = f < 5 ? plain + k.m : plain - k.m;
    int[] byKind = {plain, boxed, tailed, silk, boxed + boxed, tailed + k.line / 4, silk - days};
    return byKind[k.kind] + lawOf(w, 0, f, far(home, h), load, k.kind);
  }

  static final int[][] BLOWS = {{1, 0}, {1, 1}, {0, 1}, {-1, 1}, {-1, 0}, {-1, -1}, {0, -1}, {1, -1}};

  static boolean standsOf(World w, int kite, int hill, int load, int hour, int days) {
    Kite k = w.kites.get(kite);
    Hill home = w.hills.get(k.home), h = w.hills.get(hill);
    int[] b = BLOWS[w.dir[hour]];
    if (k.home == hill || w.force[hour] == 0) return false;
    if (far(home, h) > k.line) return false;
    if (pullOf(w, kite, hill, load, hour, days) < 0) return false;
    return (h.x - home.x) * b[0] + (h.y - home.y) * b[1] > 0;
  }

  public int pull(int kite, int hill, int load) {
    if (noKite(kite) || noHill(hill) || load < 0 || load > 999) return fail(1);
    return pullOf(w, kite, hill, load, w.now % 24, w.now / 24);
  }

  public int stands(int kite, int hill, int load) {
    if (noKite(kite) || noHill(hill) || load < 0 || load > 999) return fail(1);
    return standsOf(w, kite, hill, load, w.now % 24, w.now / 24) ? 1 : 0;
  }

  public int over(int kite, int hour, int load) {
    if (noKite(kite) || hour < 0 || hour > 23 || load < 0 || load > 999) return fail(1);
    int bits = 0;
    for (int h = 0; h < w.hills.size(); h++) if (standsOf(w, kite, h, load, hour, w.now / 24)) bits += 1 << h;
    return bits;
  }

  // ---- texts

  public int feed(long word, int n) {
    if (n < 1 || n > 8) return fail(1);
    if (w.tape.length() + n > 50) return fail(4);
    StringBuilder b = new StringBuilder(w.tape);
    for (int i = 0; i < n; i++) {
      b.append((char) (word & 0xff));
      word >>= 8;
    }
    w.tape = b.toString();
    return w.tape.length();
  }

  static final String[] NAMES = {"fdlk", "hw"};

  /** Whether a whole string is a TEXT, by cutting it where its signs of least force stand. */
  static boolean isText(String s, String names) {
    return mostOpen(s, names) <= 5 && isT(s, names);
  }

  /** Cuts at signs that stand outside of brackets. */
  static List<String> cut(String s, String signs) {
    List<String> parts = new ArrayList<>();
    int depth = 0, from = 0;
    for (int i = 0; i < s.length(); i++) {
      char c = s.charAt(i);
      if (c == '(') depth++;
      if (c == ')') depth--;
      if (depth == 0 && signs.indexOf(c) >= 0) {
        parts.add(s.substring(from, i));
        from = i + 1;
      }
    }
    parts.add(s.substring(from));
    return parts;
  }

  static boolean isT(String s, String names) {
    int depth = 0;
    for (char c : s.toCharArray()) {
      if (c == '(') depth++;
      if (c == ')') depth--;
      if (depth < 0) return false;
    }
    if (depth != 0) return false;
    for (String a : cut(s, "|"))
      for (String b : cut(a, "&")) {
        List<String> sides = cut(b, "<=>");
        if (sides.size() > 2) return false;
        for (String side : sides)
          for (String p : cut(side, "+-"))
            for (String q : cut(p, "*/%")) if (!isQ(q, names)) return false;
      }
    return true;
  }

  static boolean isQ(String q, String names) {
    if (q.matches("[0-9]{1,4}")) return true;
    if (q.length() == 1 && names.indexOf(q.charAt(0)) >= 0) return true;
    if (q.startsWith("!")) return isQ(q.substring(1), names);
    return q.startsWith("(") && q.endsWith(")") && q.length() > 2 && isT(q.substring(1, q.length() - 1), names);
  }

  /** How many of ! and ( are open at once, at most. */
  static int mostOpen(String s, String names) {
    List<Character> open = new ArrayList<>();
    int most = 0;
    for (int i = 0; i < s.length(); i++) {
      char c = s.charAt(i);
      boolean part = false;
      if (c == '!' || c == '(') open.add(c);
      most = Math.max(most, open.size());
      if (c == ')') {
        while (!open.isEmpty() && open.get(open.size() - 1) == '!') open.remove(open.size() - 1);
        if (!open.isEmpty()) open.remove(open.size() - 1);
        part = true;
      }
      if (Character.isLetterOrDigit(c)) part = true;
      if (part) while (!open.isEmpty() && open.get(open.size() - 1) == '!') open.remove(open.size() - 1);
    }
    return most;
  }

  /** A beginning goes on if a number, or nothing, and some closing brackets make it a TEXT. */
  static boolean goesOn(String s, String names) {
    StringBuilder closing = new StringBuilder();
    for (int k = 0; k <= 6; k++) {
      if (isText(s + closing, names) || isText(s + "1" + closing, names)) return true;
      closing.append(')');
    }
    return false;
  }

  public int text(int use) {
    if (use != 0 && use != 1) return fail(1);
    String s = w.tape;
    w.tape = "";
    for (int i = 1; i <= s.length(); i++) if (!goesOn(s.substring(0, i), NAMES[use])) return -10 - (i - 1);
    if (!isText(s, NAMES[use])) return -10 - s.length();
    w.texts[use] = s;
    return 1;
  }

  static int work(String s, String names, int[] values) {
    List<String> alternatives = cut(s, "|");
    if (alternatives.size() > 1) {
      int any = 0;
      for (String a : alternatives) if (work(a, names, values) != 0) any = 1;
      return any;
    }
    List<String> both = cut(s, "&");
    if (both.size() > 1) {
      int all = 1;
      for (String b : both) if (work(b, names, values) == 0) all = 0;
      return all;
    }
    for (String sign : new String[] {"<=>", "+-", "*/%"}) {
      List<String> parts = cut(s, sign);
      if (parts.size() == 1) continue;
      int at = parts.get(0).length();
      int value = work(parts.get(0), names, values);
      for (int i = 1; i < parts.size(); i++) {
        int right = work(parts.get(i), names, values);
        switch (s.charAt(at)) {
          case '<' -> value = value < right ? 1 : 0;
          case '=' -> value = value == right ? 1 : 0;
          case '>' -> value = value > right ? 1 : 0;
          case '+' -> value += right;
          case '-' -> value -= right;
          case '*' -> value *= right;
          case '/' -> value = right == 0 ? 0 : (int) ((long) value / right);
          default -> value = right == 0 ? 0 : (int) ((long) value % right);
        }
        at += 1 + parts.get(i).length();
      }
      return value;
    }
    if (s.charAt(0) == '!') return work(s.substring(1), names, values) == 0 ? 1 : 0;
    if (s.charAt(0) == '(') return work(s.substring(1, s.length() - 1), names, values);
    if (names.indexOf(s.charAt(0)) >= 0) return values[names.indexOf(s.charAt(0))];
    return Integer.parseInt(s);
  }

  static int lawOf(World w, int use, int a, int b, int c, int d) {
    String s = w.texts[use];
    if (s == null) s = use == 0 ? "0" : "w+1";
    int v = work(s, NAMES[use], new int[] {a, b, c, d});
    if (use == 0) return v > 99 ? 99 : v < -99 ? -99 : v;
    return v > 999 ? 999 : v < 0 ? 0 : v;
  }

  public int law(int use, int a, int b, int c, int d) {
    return use == 0 || use == 1 ? lawOf(w, use, a, b, c, d) : fail(1);
  }

  // ---- lines, letters

  static boolean hasLine(World w, int k, int time) {
    return w.aims.get(k) >= 0 && standsOf(w, k, w.aims.get(k), 0, time % 24, time / 24);
  }

  /** By solving for the common point: a + t(b-a) = c + u(d-c). */
  static boolean crossing(World w, int k1, int k2) {
    Hill a = w.hills.get(w.kites.get(k1).home), b = w.hills.get(w.aims.get(k1));
    Hill c = w.hills.get(w.kites.get(k2).home), d = w.hills.get(w.aims.get(k2));
    int rx = b.x - a.x, ry = b.y - a.y, sx = d.x - c.x, sy = d.y - c.y;
    int det = rx * sy - ry * sx;
    int qx = c.x - a.x, qy = c.y - a.y;
    if (det == 0) {
      if (rx * qy - ry * qx != 0) return false;
      // on one straight line: how far along r, from a on, do c and d lie?
      int len = rx * rx + ry * ry;
      int pc = qx * rx + qy * ry, pd = (d.x - a.x) * rx + (d.y - a.y) * ry;
      return Math.min(len, Math.max(pc, pd)) > Math.max(0, Math.min(pc, pd));
    }
    int t = (qx * sy - qy * sx) * Integer.signum(det);
    int u = (qx * ry - qy * rx) * Integer.signum(det);
    int one = Math.abs(det);
    if (t < 0 || t > one || u < 0 || u > one) return false;
    boolean endOfFirst = t == 0 || t == one, endOfSecond = u == 0 || u == one;
    return !(endOfFirst && endOfSecond);
  }

  static int downOf(World w, int time) {
    List<Integer> having = new ArrayList<>();
    for (int k = 0; k < w.kites.size(); k++) if (hasLine(w, k, time)) having.add(k);
    having.sort(Comparator.comparing(k -> -w.kites.get(k).lift));
    List<Integer> up = new ArrayList<>();
    int down = 0;
    for (int k : having) {
      if (up.stream().anyMatch(o -> crossing(w, k, o))) down += 1 << k;
      else up.add(k);
    }
    return down;
  }

  public int cross(int one, int other) {
    if (noKite(one) || noKite(other) || one == other) return fail(1);
    return hasLine(w, one, w.now) && hasLine(w, other, w.now) && crossing(w, one, other) ? 1 : 0;
  }

  public int lines(int what) {
    if (what != 0 && what != 1) return fail(1);
    if (what == 1) return downOf(w, w.now);
    int bits = 0;
    for (int k = 0; k < w.kites.size(); k++) if (hasLine(w, k, w.now)) bits += 1 << k;
    return bits;
  }

  public int letter(int from, int to, int weight, int answer) {
    if (noHill(from) || noHill(to) || from == to || weight < 0 || weight > 30) return fail(1);
    if (answer != -1 && noLetter(answer)) return fail(1);
    if (w.letters.size() == 12) return fail(4);
    Letter l = new Letter();
    l.from = from; l.to = to; l.weight = weight; l.answer = answer; l.written = w.now; l.on = from;
    w.letters.add(l);
    return w.letters.size() - 1;
  }

  static int of(Letter l, int what) {
    return new int[] {l.from, l.to, l.weight, l.answer, l.written, l.on, l.arrived}[what];
  }

  public int ofLetter(int letter, int what) {
    return noLetter(letter) || what < 0 || what > 6 ? fail(1) : of(w.letters.get(letter), what);
  }

  static void anHour(World w) {
    int down = downOf(w, w.now);
    List<Integer> takers = new ArrayList<>();
    for (int k = 0; k < w.kites.size(); k++) if (hasLine(w, k, w.now) && (down >> k & 1) == 0) takers.add(k);
    TreeSet<Integer> moved = new TreeSet<>();
    for (int k : takers) {
      int has = 0, aim = w.aims.get(k);
      for (int i = 0; i < w.letters.size(); i++) {
        Letter l = w.letters.get(i);
        if (l.arrived != -1 || l.on != w.kites.get(k).home || moved.contains(i)) continue;
        if (!standsOf(w, k, aim, has + l.weight, w.now % 24, w.now / 24)) continue;
        has += l.weight;
        moved.add(i);
        l.on = aim;
        if (l.to == aim) {
          l.arrived = w.now + 1;
          w.order.add(i);
          w.paid = Math.min(999999, w.paid + lawOf(w, 1, l.arrived - l.written, l.weight, 0, 0));
        }
      }
    }
    w.now++;
  }

  public int hours(int n) {
    if (n < 1 || n > 72) return fail(1);
    if (w.now + n > 9999) return fail(3);
    for (int i = 0; i < n; i++) anHour(w);
    return w.now;
  }

  public int loose(int n, int loose) {
    if (n < 1 || n > 72 || loose < 0 || loose > 10) return fail(1);
    if (w.now + n > 9999) return fail(3);
    for (int i = 0; i < n; i++) {
      w.z = w.z * 1103515245 + 12345;
      if ((w.z >>> 8) % 10 < loose) w.now++;
      else anHour(w);
    }
    return w.now;
  }

  // ---- ahead, ways

  static World aheadOf(World w, int n) {
    World a = w.copy();
    for (int i = 0; i < n; i++) anHour(a);
    return a;
  }

  public int then(int n, int what) {
    if (n < 0 || n > 72 || what < 0 || what > 1) return fail(1);
    World a = aheadOf(w, n);
    return what == 0 ? a.order.size() : a.paid;
  }

  public int where(int n, int letter, int what) {
    if (n < 0 || n > 72 || noLetter(letter) || what < 5 || what > 6) return fail(1);
    return of(aheadOf(w, n).letters.get(letter), what);
  }

  /** Over all hours, calm where calm says so. */
  static int soonestOf(World w, int from, int to, int weight, int most, int calm) {
    TreeSet<Integer> on = new TreeSet<>(List.of(from));
    for (int i = 0; i < most; i++) {
      if (i < 31 && (calm >> i & 1) != 0) continue;
      TreeSet<Integer> next = new TreeSet<>(on);
      for (int k = 0; k < w.kites.size(); k++)
        if (on.contains(w.kites.get(k).home))
          for (int h = 0; h < w.hills.size(); h++)
            if (!next.contains(h) && standsOf(w, k, h, weight, (w.now + i) % 24, (w.now + i) / 24)) next.add(h);
      on = next;
      if (on.contains(to)) return i + 1;
    }
    return -1;
  }

  public int soonest(int from, int to, int weight) {
    if (noHill(from) || noHill(to) || from == to || weight < 0 || weight > 999) return fail(1);
    int s = soonestOf(w, from, to, weight, 72, 0);
    return s < 0 ? fail(2) : s;
  }

  public long sure(int ft, int weight, int nc, int part) {
    if (ft < 0 || noHill(ft / 10) || noHill(ft % 10) || ft / 10 == ft % 10 || weight < 0 || weight > 999) return fail(1);
    if (nc < 0 || nc / 100 > 10 || nc % 100 > 10 || part < 0 || part > 1) return fail(1);
    int n = nc / 100, c = nc % 100;
    BigInteger sum = BigInteger.ZERO;
    for (int calm = 0; calm < 1 << n; calm++) {
      if (soonestOf(w, ft / 10, ft % 10, weight, n, calm) < 0) continue;
      int still = Integer.bitCount(calm);
      sum = sum.add(BigInteger.valueOf(c).pow(still).multiply(BigInteger.valueOf(10 - c).pow(n - still)));
    }
    BigInteger all = BigInteger.TEN.pow(n), common = sum.gcd(all);
    return (part == 0 ? sum : all).divide(common).longValueExact();
  }

  public int best(int kite, int n) {
    if (noKite(kite) || n < 0 || n > 72) return fail(1);
    int[] by = new int[w.hills.size() + 1];
    for (int h = -1; h < w.hills.size(); h++) {
      World a = w.copy();
      a.aims.set(kite, h);
      by[h + 1] = h == w.kites.get(kite).home ? -1 : aheadOf(a, n).order.size();
    }
    int most = Arrays.stream(by).max().getAsInt();
    for (int h = -1; ; h++) if (by[h + 1] == most) return h;
  }

  public int fresh(int from, int to, int weight, int what) {
    if (noHill(from) || noHill(to) || from == to || weight < 0 || weight > 999 || what < 0 || what > 1) return fail(1);
    if (w.hills.size() == 9 || w.kites.size() == 8) return fail(3);
    int least = 73, place = -1;
    for (int x = 0; x < 16; x += 2)
      for (int y = 0; y < 16; y += 2) {
        int px = x, py = y;
        if (w.hills.stream().anyMatch(h -> h.x == px && h.y == py)) continue;
        World a = w.copy();
        a.hills.add(new Hill(x, y, 0));
        a.kites.add(new Kite(0, 0, a.hills.size() - 1, 40, 20));
        int s = soonestOf(a, from, to, weight, 72, 0);
        if (s > 0 && s < least) {
          least = s;
          place = 16 * x + y;
        }
      }
    if (place < 0) return fail(2);
    return what == 0 ? place : least;
  }

  public int order(int what, int i) {
    if (what < 0 || what > 1 || i < 0) return fail(1);
    List<Integer> row = what == 0 ? w.order : mended();
    return i < row.size() ? row.get(i) : fail(2);
  }

  List<Integer> mended() {
    List<Integer> left = new ArrayList<>(w.order), row = new ArrayList<>();
    while (!left.isEmpty()) {
      for (int l : left) {
        int q = w.letters.get(l).answer;
        if (q == -1 || !w.order.contains(q) || row.contains(q)) {
          row.add(l);
          left.remove((Integer) l);
          break;
        }
      }
    }
    return row;
  }

  public int before() {
    for (int l : w.order) {
      int q = w.letters.get(l).answer;
      if (q == -1) continue;
      if (!w.order.contains(q) || w.order.indexOf(q) > w.order.indexOf(l)) return l;
    }
    return fail(2);
  }

  // ---- draws, voices, sheets, images, what is told

  public int seed(int v) {
    int was = w.z;
    w.z = v;
    return was;
  }

  /** The numbers of BODIES: by KIND, then lifts, sways, sinks, tells; 0: none. */
  static final int[][] BODIES = {
    {10, 11, 12, 13}, {0, 20, 0, 0}, {30, 0, 0, 0}, {0, 0, 40, 0}, {0, 50, 0, 0}, {0, 0, 0, 60}, {0, 0, 70, 71}
  };

  int say(int n, int kind, int act, int x) {
    int k = kind;
    while (BODIES[k][act] == 0) k = ABOVE[k];
    int own = w.kites.get(n).kind, up = ABOVE[k], m = w.kites.get(n).m;
    if (trace.size() < 40) trace.add(BODIES[k][act]);
    int left;
    switch (BODIES[k][act]) {
      case 10: return x + n;
      case 11: return say(n, own, 0, x) * 2;
      case 12: return x - m;
      case 13: left = say(n, own, 1, x); return left ^ say(n, own, 2, x);
      case 20: left = say(n, up, 1, x); return left - say(n, own, 2, 1);
      case 30: return say(n, up, 0, x) * 3;
      case 40: return -say(n, up, 2, x);
      case 50: return say(n, up, 1, x + 1);
      case 60: left = say(n, up, 3, x); return left - say(n, own, 0, 2);
      case 70: return say(n, up, 2, x) ^ n;
      default: left = say(n, own, 1, x); return left - say(n, up, 3, x);
    }
  }

  public int voice(int kite, int act, int x) {
    if (noKite(kite) || act < 0 || act > 3) return fail(1);
    trace.clear();
    return say(kite, w.kites.get(kite).kind, act, x);
  }

  public int trace(int i) {
    return i < 0 || i >= trace.size() ? fail(2) : trace.get(i);
  }

  public int sheet(int sheet, int bits, int n) {
    if (sheet < 0 || sheet > 3 || !List.of(0, 8, 16, 32).contains(bits)) return fail(1);
    if (bits == 0) {
      sheets[sheet] = null;
      return 1;
    }
    if (n < 0) return fail(3);
    if (n > 40) return fail(1);
    sheets[sheet] = new Sheet();
    sheets[sheet].bits = bits;
    sheets[sheet].numbers = new long[n];
    return 1;
  }

  public int put(int sheet, int i, int v) {
    if (sheet < 0 || sheet > 3) return fail(1);
    Sheet s = sheets[sheet];
    if (s == null) return fail(2);
    if (i < 0 || i >= s.numbers.length) return fail(1);
    s.numbers[i] = Math.floorMod((long) v, 1L << s.bits);
    return 1;
  }

  public int move(int sheet, int i, int other, int j, int n) {
    if (sheet < 0 || sheet > 3 || other < 0 || other > 3) return fail(1);
    Sheet a = sheets[sheet], b = sheets[other];
    if (a == null || b == null) return fail(2);
    if (a.bits != b.bits) return fail(5);
    if (n < 0 || i < 0 || j < 0) return fail(1);
    if ((long) i + n > a.numbers.length || (long) j + n > b.numbers.length) return fail(1);
    long[] were = a.numbers.clone();
    for (int k = 0; k < n; k++) b.numbers[j + k] = were[i + k];
    return n;
  }

  public int winds(int sheet) {
    if (sheet < 0 || sheet > 3) return fail(1);
    Sheet s = sheets[sheet];
    if (s == null) return fail(2);
    int came = 0;
    while (came < 24 && came < s.numbers.length && s.numbers[came] < 80) {
      w.dir[came] = (int) s.numbers[came] / 10;
      w.force[came] = (int) s.numbers[came] % 10;
      came++;
    }
    return came;
  }

  public int image() {
    kept = w.copy();
    return ++images;
  }

  public int restore() {
    if (kept == null) return fail(2);
    w = kept.copy();
    return w.now;
  }

  public int tell(int v) {
    if (w.waiting.size() == 20) return fail(4);
    w.waiting.add(v);
    return w.waiting.size();
  }

  public int check(int letter) {
    List<Integer> were = w.waiting;
    w.waiting = new ArrayList<>();
    if (noLetter(letter)) return fail(1);
    for (int i = 0; i < were.size(); i++) if (aheadOf(w, i + 1).letters.get(letter).on != were.get(i)) return 1 + i;
    return 0;
  }

  public int count(int what) {
    if (what < 0 || what > 9) return fail(1);
    return new int[] {w.now, w.hills.size(), w.kites.size(), w.letters.size(), w.order.size(), w.paid,
      w.tape.length(), w.waiting.size(), trace.size(), w.z}[what];
  }

  public int told(int k) {
    return k < 1 || k > 5 ? fail(1) : told[k];
  }
}
