import java.util.ArrayList;
import java.util.List;

// Long runs of calls, ordinary and wrong ones, on an object and on a model of it that is written as
// plainly as the document's words: lists of corners, all stretches by their definition, all subsets
// of a short border's corners tried as polygons, each dot's centre held against each side.
// No clock and no random source: the calls come from a fixed row of numbers.
public final class ModelTests {
  private static final int NONE = -1000000, BAD = -1000001, STATE = -1000002, FULL = -1000003;
  private static int wrong = 0;
  private static long asked = 0;

  // ---- the model

  private static final class Shot {
    int width, height, joined, sharp;
    boolean[][] dark = new boolean[8][8];

    Shot copy() {
      Shot other = new Shot();
      other.width = width; other.height = height; other.joined = joined; other.sharp = sharp;
      for (int y = 0; y < 8; y++) other.dark[y] = dark[y].clone();
      return other;
    }
  }

  private static final class Ring {
    int firstX, firstY;
    List<int[]> corners = new ArrayList<>();
    boolean[][] inside = new boolean[8][8];
    int[][] offs;
    List<Integer> best;
    int bestOff;

    int size() { return corners.size(); }
    int x(int k) { return corners.get(k % size())[0]; }
    int y(int k) { return corners.get(k % size())[1]; }
    int way(int k) { return corners.get(k % size())[2]; }
  }

  private static final class Model {
    StringBuilder tape = new StringBuilder();
    int faultNumber = 0;
    Shot now = null;
    Shot[] images = new Shot[2];
    List<Shot> acts = new ArrayList<>();
    List<Ring> rings = null;

    int feed(int letter) {
      if (letter < 0 || letter > 255) return BAD;
      if (tape.length() == 90) return FULL;
      tape.append((char) letter);
      return tape.length();
    }

    int picture() {
      String text = tape.toString();
      tape.setLength(0);
      // what may stand at each place, told from the front: d, a digit of size, a sign, a letter of a row
      StringBuilder form = new StringBuilder("dnn;");
      for (int place = 0; place <= text.length(); place++) {
        if (place == 4) {
          int w = text.charAt(1) - '0', h = text.charAt(2) - '0';
          for (int y = 0; y < h; y++) form.append("r".repeat(w)).append(';');
        }
        if (place == text.length() && place == form.length()) break;
        int found = place == text.length() || place >= form.length() ? 1 : faultOf(form.charAt(place), text.charAt(place));
        if (found != 0) { faultNumber = found; return -1000100 - place; }
      }
      Shot shot = new Shot();
      shot.width = text.charAt(1) - '0'; shot.height = text.charAt(2) - '0'; shot.sharp = 8;
      String[] rows = text.substring(4).split(";");
      for (int y = 0; y < shot.height; y++)
        for (int x = 0; x < shot.width; x++) shot.dark[y][x] = rows[y].charAt(x) == 'x';
      now = shot; acts.clear(); rings = null;
      return darkOnes();
    }

    static int faultOf(char form, char sign) {
      switch (form) {
        case 'n': return sign >= '1' && sign <= '8' ? 0 : sign == '0' || sign == '9' ? 2 : 1;
        case 'r': return sign == 'x' || sign == 'o' ? 0 : "abcdefghijklmnopqrstuvwxyz".indexOf(sign) >= 0 ? 2 : 1;
        default: return sign == form ? 0 : 1;
      }
    }

    int darkOnes() {
      int n = 0;
      if (now != null) for (int y = 0; y < now.height; y++) for (int x = 0; x < now.width; x++) if (now.dark[y][x]) n++;
      return n;
    }

    boolean noDot(int x, int y) { return now == null || x < 0 || y < 0 || x >= now.width || y >= now.height; }

    void act() {
      acts.add(now.copy());
      if (acts.size() > 8) acts.remove(0);
      rings = null;
    }

    int undo() {
      if (acts.isEmpty()) return STATE;
      now = acts.remove(acts.size() - 1);
      rings = null;
      return acts.size();
    }

    int flip(int x, int y) {
      if (noDot(x, y)) return BAD;
      act();
      now.dark[y][x] = !now.dark[y][x];
      return now.dark[y][x] ? 1 : 0;
    }

    int frame(int x, int y, int x2, int y2, int v) {
      if (noDot(x, y) || noDot(x2, y2) || x2 < x || y2 < y || v < 0 || v > 2) return BAD;
      act();
      for (int b = y; b <= y2; b++) for (int a = x; a <= x2; a++) now.dark[b][a] = v == 2 ? !now.dark[b][a] : v == 1;
      return darkOnes();
    }

    int joined(int v) {
      if (now == null) return STATE;
      if (v != 0 && v != 1) return BAD;
      act();
      int before = now.joined;
      now.joined = v;
      return before;
    }

    int sharp(int v) {
      if (now == null) return STATE;
      if (v < 1 || v > 32) return BAD;
      act();
      int before = now.sharp;
      now.sharp = v;
      return before;
    }

    int dot(int x, int y) { return noDot(x, y) ? BAD : now.dark[y][x] ? 1 : 0; }

    // -- borders

    static final int[][] GO = {{1, 0}, {0, 1}, {-1, 0}, {0, -1}};

    static boolean at(boolean[][] set, int x, int y) { return x >= 0 && y >= 0 && x < 8 && y < 8 && set[y][x]; }

    // the dot ahead, to the left (side = -1) or to the right (1) of a direction, by its centre
    static boolean ahead(boolean[][] set, int x, int y, int way, int side) {
      int[] f = GO[way], r = GO[(way + 1) % 4];
      int cx = 2 * x + f[0] + side * r[0], cy = 2 * y + f[1] + side * r[1];
      return at(set, Math.floorDiv(cx, 2), Math.floorDiv(cy, 2));
    }

    List<Ring> rings() {
      if (rings != null) return rings;
      List<Ring> list = new ArrayList<>();
      boolean[][] rest = now.copy().dark;
      while (true) {
        int fx = -1, fy = -1;
        for (int y = 0; y < 8 && fx < 0; y++) for (int x = 0; x < 8 && fx < 0; x++) if (rest[y][x]) { fx = x; fy = y; }
        if (fx < 0) break;
        Ring ring = new Ring();
        ring.firstX = fx; ring.firstY = fy;
        int x = fx, y = fy, way = 0;
        do {
          ring.corners.add(new int[] {x, y, way});
          x += GO[way][0]; y += GO[way][1];
          boolean l = ahead(rest, x, y, way, -1), r = ahead(rest, x, y, way, 1);
          if (!l && !r) way = (way + 1) % 4;
          else if (l && r) way = (way + 3) % 4;
          else if (l) way = (now.joined == 0 ? way + 1 : way + 3) % 4;
        } while (x != fx || y != fy || way != 0);
        for (int b = 0; b < 8; b++) for (int a = 0; a < 8; a++) {
          int steps = 0;
          for (int[] c : ring.corners) {
            if (c[2] == 1 && c[1] == b && c[0] <= a) steps++;
            if (c[2] == 3 && c[1] == b + 1 && c[0] <= a) steps++;
          }
          ring.inside[b][a] = steps % 2 == 1;
          if (ring.inside[b][a]) rest[b][a] = !rest[b][a];
        }
        list.add(ring);
      }
      rings = list;
      return rings;
    }

    Ring ring(int n) { return now == null || n < 0 || n >= rings().size() ? null : rings().get(n); }

    int borders() { return now == null ? STATE : rings().size(); }

    int border(int n, int what) {
      Ring r = ring(n);
      if (r == null || what < 0 || what > 5) return BAD;
      int area = 0, turns = 0;
      for (int y = 0; y < now.height; y++) for (int x = 0; x < now.width; x++) if (r.inside[y][x]) area++;
      for (int k = 0; k < r.size(); k++) if (r.way(k) != r.way(k + r.size() - 1)) turns++;
      return new int[] {r.size(), now.dark[r.firstY][r.firstX] ? 1 : 0, area, r.firstX, r.firstY, turns}[what];
    }

    int corner(int n, int k, int what) {
      Ring r = ring(n);
      if (r == null || k < 0 || what < 0 || what > 2) return BAD;
      return r.corners.get(k % r.size())[what];
    }

    int inside(int n, int x, int y) {
      Ring r = ring(n);
      return r == null || noDot(x, y) ? BAD : r.inside[y][x] ? 1 : 0;
    }

    // -- stretches

    static int stretch(Ring r, int i, int s) {
      int dx = r.x(i + s) - r.x(i), dy = r.y(i + s) - r.y(i), sum = 0;
      if (dx == 0 && dy == 0) return NONE;
      for (int k = i; k <= i + s; k++) {
        int c = Math.abs(dx * (r.y(k) - r.y(i)) - dy * (r.x(k) - r.x(i)));
        if (2 * c > Math.max(Math.abs(dx), Math.abs(dy))) return NONE;
        sum += c * c;
      }
      return sum;
    }

    static int[][] offs(Ring r) {
      if (r.offs == null) {
        r.offs = new int[r.size()][r.size()];
        for (int i = 0; i < r.size(); i++) for (int s = 1; s < r.size(); s++) r.offs[i][s] = stretch(r, i, s);
      }
      return r.offs;
    }

    int straight(int n, int i, int s) {
      Ring r = ring(n);
      if (r == null || i < 0 || i >= r.size() || s < 1 || s >= r.size()) return BAD;
      return offs(r)[i][s] == NONE ? 0 : 1;
    }

    int off(int n, int i, int s) {
      Ring r = ring(n);
      if (r == null || i < 0 || i >= r.size() || s < 1 || s >= r.size()) return BAD;
      return offs(r)[i][s];
    }

    int longest(int n, int i) {
      Ring r = ring(n);
      if (r == null || i < 0 || i >= r.size()) return BAD;
      int most = 0;
      for (int s = 1; s < r.size(); s++) if (offs(r)[i][s] != NONE) most = s;
      return most;
    }

    // -- polygons

    static boolean better(List<Integer> a, int offA, List<Integer> b, int offB) {
      if (b == null) return true;
      if (a.size() != b.size()) return a.size() < b.size();
      if (offA != offB) return offA < offB;
      for (int k = 0; k < a.size(); k++) if (!a.get(k).equals(b.get(k))) return a.get(k) < b.get(k);
      return false;
    }

    static void seek(Ring r) {
      if (r.best != null) return;
      if (r.size() <= 12) seekAmongAll(r); else seekOnward(r);
    }

    static void seekAmongAll(Ring r) {
      for (int set = 1; set < 1 << r.size(); set++) {
        List<Integer> list = new ArrayList<>();
        for (int k = 0; k < r.size(); k++) if ((set >> k & 1) == 1) list.add(k);
        int sum = list.size() < 2 ? NONE : polygon(r, list);
        if (sum != NONE && better(list, sum, r.best, r.bestOff)) { r.best = list; r.bestOff = sum; }
      }
    }

    static int polygon(Ring r, List<Integer> list) {
      int sum = 0;
      for (int k = 0; k < list.size(); k++) {
        int from = list.get(k), to = k + 1 < list.size() ? list.get(k + 1) : list.get(0) + r.size();
        int off = offs(r)[from][to - from];
        if (off == NONE) return NONE;
        sum += off;
      }
      return sum;
    }

    // from each first corner on: the best list that leads to each corner behind it, whole lists compared
    @SuppressWarnings({"unchecked", "rawtypes"})
    static void seekOnward(Ring r) {
      int size = r.size();
      for (int first = 0; first < size; first++) {
        List<Integer>[] lists = new List[size];
        int[] sums = new int[size];
        lists[first] = new ArrayList<>();
        lists[first].add(first);
        for (int from = first; from < size; from++) {
          if (lists[from] == null) continue;
          for (int to = from + 1; to < size; to++) {
            int off = offs(r)[from][to - from];
            if (off == NONE) continue;
            List<Integer> longer = new ArrayList<>(lists[from]);
            longer.add(to);
            if (better(longer, sums[from] + off, lists[to], sums[to])) { lists[to] = longer; sums[to] = sums[from] + off; }
          }
        }
        for (int last = first + 1; last < size; last++) {
          if (lists[last] == null || offs(r)[last][first + size - last] == NONE) continue;
          int sum = sums[last] + offs(r)[last][first + size - last];
          if (better(lists[last], sum, r.best, r.bestOff)) { r.best = lists[last]; r.bestOff = sum; }
        }
      }
    }

    // u, v, w of a vertex: x of each, y of each
    static int[] three(Ring r, int k) {
      int size = r.best.size();
      int u = r.best.get((k + size - 1) % size), v = r.best.get(k), w = r.best.get((k + 1) % size);
      return new int[] {r.x(u), r.x(v), r.x(w), r.y(u), r.y(v), r.y(w)};
    }

    static int turn(Ring r, int k) {
      int[] t = three(r, k);
      int a = (t[1] - t[0]) * (t[5] - t[4]), b = (t[4] - t[3]) * (t[2] - t[1]);
      int one = Math.max(Math.abs(t[1] - t[0]), Math.abs(t[4] - t[3]));
      int two = Math.max(Math.abs(t[2] - t[1]), Math.abs(t[5] - t[4]));
      return 8 * Math.abs(a - b) / (one + two);
    }

    boolean isSharp(Ring r, int k) {
      int[] t = three(r, k);
      return turn(r, k) >= now.sharp || (t[1] - t[0]) * (t[2] - t[1]) + (t[4] - t[3]) * (t[5] - t[4]) <= 0;
    }

    int sharpOnes(Ring r) {
      int n = 0;
      for (int k = 0; k < r.best.size(); k++) if (isSharp(r, k)) n++;
      return n;
    }

    int best(int n, int what) {
      Ring r = ring(n);
      if (r == null || what < 0 || what > 3) return BAD;
      seek(r);
      int twice = 0;
      for (int k = 0; k < r.best.size(); k++) {
        int a = r.best.get(k), b = r.best.get((k + 1) % r.best.size());
        twice += (r.x(b) - r.x(a)) * (r.y(a) + r.y(b));
      }
      return new int[] {r.best.size(), r.bestOff, sharpOnes(r), Math.abs(twice)}[what];
    }

    int vertex(int n, int k, int what) {
      Ring r = ring(n);
      if (r == null) return BAD;
      seek(r);
      if (k < 0 || k >= r.best.size() || what < 0 || what > 2) return BAD;
      return what == 0 ? r.best.get(k) : what == 1 ? turn(r, k) : isSharp(r, k) ? 1 : 0;
    }

    // by how many corners each corner can be come to from i, one more at a time
    int past(int n, int i) {
      Ring r = ring(n);
      if (r == null || i < 0 || i >= r.size()) return BAD;
      int size = r.size();
      boolean[] here = new boolean[size + 1];
      here[0] = true;
      for (int many = 1; many <= size; many++) {
        boolean[] next = new boolean[size + 1];
        for (int from = 0; from < size; from++) {
          if (!here[from]) continue;
          for (int s = 1; s < size && from + s <= size; s++) if (offs(r)[(i + from) % size][s] != NONE) next[from + s] = true;
        }
        if (next[size]) return many;
        here = next;
      }
      return -1;
    }

    static final int[][] PARTS = {{9, 6, 1}, {4, 8, 4}, {1, 6, 9}};

    // 32 times the point
    static int[] roundPoint(Ring r, int k, int i) {
      int[] t = three(r, k), p = PARTS[i - 1];
      int[] answer = new int[2];
      for (int what = 0; what < 2; what++) {
        int u = 32 * t[3 * what], v = 32 * t[3 * what + 1], w = 32 * t[3 * what + 2];
        int sixteen = p[0] * ((u + v) / 2) + p[1] * v + p[2] * ((v + w) / 2);
        if (sixteen % 16 != 0) throw new IllegalStateException("a point that is not whole");
        answer[what] = sixteen / 16;
      }
      return answer;
    }

    int point(int n, int k, int i, int what) {
      Ring r = ring(n);
      if (r == null) return BAD;
      seek(r);
      if (k < 0 || k >= r.best.size() || i < 1 || i > 3 || what < 0 || what > 1) return BAD;
      return isSharp(r, k) ? NONE : roundPoint(r, k, i)[what];
    }

    // -- filled

    List<int[]> figure(Ring r, int kind) {
      seek(r);
      List<int[]> points = new ArrayList<>();
      for (int k = 0; k < r.best.size(); k++) {
        int[] t = three(r, k);
        if (kind == 0) { points.add(new int[] {32 * t[1], 32 * t[4]}); continue; }
        points.add(new int[] {16 * (t[0] + t[1]), 16 * (t[3] + t[4])});
        if (isSharp(r, k)) points.add(new int[] {32 * t[1], 32 * t[4]});
        else for (int i = 1; i <= 3; i++) points.add(roundPoint(r, k, i));
      }
      return points;
    }

    static boolean fills(List<int[]> figure, int x, int y) {
      int cx = 32 * x + 16, cy = 32 * y + 16, sides = 0;
      for (int k = 0; k < figure.size(); k++) {
        int[] a = figure.get(k), b = figure.get((k + 1) % figure.size());
        if ((a[1] < cy) == (b[1] < cy)) continue;
        // the crossing as a fraction, its lower part above 0
        long lower = b[1] - a[1], upper = a[0] * lower + (long) (cy - a[1]) * (b[0] - a[0]);
        if (lower < 0) { lower = -lower; upper = -upper; }
        if (upper < cx * lower) sides++;
      }
      return sides % 2 == 1;
    }

    int filled(int n, int kind, int x, int y) {
      Ring r = ring(n);
      if (r == null || noDot(x, y) || kind < 0 || kind > 1) return BAD;
      return fills(figure(r, kind), x, y) ? 1 : 0;
    }

    int differ(int n, int kind) {
      Ring r = ring(n);
      if (r == null || kind < 0 || kind > 1) return BAD;
      List<int[]> figure = figure(r, kind);
      int many = 0;
      for (int y = 0; y < now.height; y++) for (int x = 0; x < now.width; x++) if (fills(figure, x, y) != r.inside[y][x]) many++;
      return many;
    }

    int wrong(int kind) {
      if (now == null) return STATE;
      if (kind < 0 || kind > 1) return BAD;
      List<List<int[]>> figures = new ArrayList<>();
      for (Ring r : rings()) figures.add(figure(r, kind));
      int many = 0;
      for (int y = 0; y < now.height; y++) for (int x = 0; x < now.width; x++) {
        int by = 0;
        for (List<int[]> figure : figures) if (fills(figure, x, y)) by++;
        if (now.dark[y][x] ? by % 2 == 0 : by % 2 == 1) many++;
      }
      return many;
    }

    int all(int what) {
      if (now == null) return STATE;
      if (what < 0 || what > 2) return BAD;
      int sum = 0;
      for (Ring r : rings()) { seek(r); sum += what == 0 ? r.size() : what == 1 ? r.best.size() : sharpOnes(r); }
      return sum;
    }

    int image(int k) {
      if (k < 0 || k > 1) return BAD;
      if (now == null) return STATE;
      images[k] = now.copy();
      return 1;
    }

    int restore(int k) {
      if (k < 0 || k > 1) return BAD;
      if (images[k] == null) return STATE;
      now = images[k].copy();
      acts.clear();
      rings = null;
      return 1;
    }

    int count(int what) {
      if (what < 0 || what > 5) return BAD;
      if (what == 5) return tape.length();
      if (what == 4) return acts.size();
      if (now == null) return 0;
      return new int[] {now.width * now.height, darkOnes(), now.joined, now.sharp}[what];
    }
  }

  // ---- the numbers that the calls are made from

  private static long seed = 1;

  private static int pick(int below) {
    seed = seed * 6364136223846793005L + 1442695040888963407L;
    return (int) ((seed >>> 33) % below);
  }

  // mostly from low to high, now and then beside them or far off
  private static int near(int low, int high) {
    switch (pick(24)) {
      case 0: return low - 1;
      case 1: return high + 1;
      case 2: return pick(2) == 0 ? Integer.MIN_VALUE : Integer.MAX_VALUE;
      default: return low + pick(Math.max(1, high - low + 1));
    }
  }

  private static String text() {
    int w = pick(3) == 0 ? 8 : 1 + pick(8), h = pick(3) == 0 ? 8 : 1 + pick(8);
    if (pick(5) == 0) return stairs(w, h);
    int manner = pick(6), a = pick(8), b = pick(8), size = 1 + pick(20), share = 1 + pick(9);
    StringBuilder text = new StringBuilder("d").append(w).append(h).append(';');
    for (int y = 0; y < h; y++) {
      for (int x = 0; x < w; x++) text.append(isDark(manner, x, y, a, b, size, share) ? 'x' : 'o');
      text.append(';');
    }
    return text.toString();
  }

  // rows whose ends go in and out by a few dots each: many polygons of a border are nearly alike there
  private static String stairs(int w, int h) {
    StringBuilder text = new StringBuilder("d").append(w).append(h).append(';');
    int left = pick(w), right = left + pick(w), goLeft = pick(3) - 1, goRight = pick(3) - 1;
    for (int y = 0; y < h; y++) {
      for (int x = 0; x < w; x++) text.append(x >= left && x <= right ? 'x' : 'o');
      text.append(';');
      left += goLeft * pick(4);
      right += goRight * pick(4);
      if (pick(6) == 0) { goLeft = -goLeft; goRight = pick(3) - 1; }
    }
    return text.toString();
  }

  private static boolean isDark(int manner, int x, int y, int a, int b, int size, int share) {
    int far = (x - a) * (x - a) + (y - b) * (y - b);
    boolean noise = pick(16) == 0;
    switch (manner) {
      case 0: return (x + y) % 2 == 0 != noise;
      case 1: return far <= size != noise;
      case 2: return (far <= size && far >= size / 3) != noise;
      case 3: return (a + 1) * x + (b - 4) * y <= 4 * size;
      case 4: return (x * (a + 1) + y * (b + 1)) % (2 + share / 2) < 1 + share / 4;
      default: return pick(10) < share;
    }
  }

  private static String broken(String text) {
    StringBuilder other = new StringBuilder(text);
    int place = pick(pick(2) == 0 ? 5 : other.length());
    place = Math.min(place, other.length() - 1);
    char sign = "dxoy;0189azAX `{".charAt(pick(16));
    switch (pick(4)) {
      case 0: other.deleteCharAt(place); break;
      case 1: other.insert(place, sign); break;
      case 2: other.setLength(place); break;
      default: other.setCharAt(place, sign); break;
    }
    return other.toString();
  }

  // ---- runs

  private static StringBuilder told = new StringBuilder();
  private static int calls;

  private static void due(String call, int got, int want) {
    asked++;
    calls++;
    told.append(call).append(' ');
    if (got != want) {
      wrong++;
      if (wrong <= 20) System.out.println(told + ": answered " + got + ", due is " + want);
    }
  }

  private static void tell(DotOutlines d, Model m, String text) {
    for (int k = 0; k < text.length(); k++) due("feed(" + (int) text.charAt(k) + ")", d.feed(text.charAt(k)), m.feed(text.charAt(k)));
    due("picture()", d.picture(), m.picture());
    due("fault()", d.fault(), m.faultNumber);
  }

  private static void change(DotOutlines d, Model m) {
    int w = m.now == null ? 3 : m.now.width - 1, h = m.now == null ? 3 : m.now.height - 1;
    int x = near(0, w), y = near(0, h), x2 = near(Math.max(x, 0) % 8, w), y2 = near(Math.max(y, 0) % 8, h), v;
    switch (pick(12)) {
      case 0: case 1: case 2: due("flip(" + x + ", " + y + ")", d.flip(x, y), m.flip(x, y)); break;
      case 3: case 4: v = near(0, 2); due("frame(" + x + ", " + y + ", " + x2 + ", " + y2 + ", " + v + ")", d.frame(x, y, x2, y2, v), m.frame(x, y, x2, y2, v)); break;
      case 5: case 6: v = near(0, 1); due("joined(" + v + ")", d.joined(v), m.joined(v)); break;
      case 7: v = near(1, 32); due("sharp(" + v + ")", d.sharp(v), m.sharp(v)); break;
      case 8: case 9: due("undo()", d.undo(), m.undo()); break;
      case 10: v = near(0, 1); due("image(" + v + ")", d.image(v), m.image(v)); break;
      default: v = near(0, 1); due("restore(" + v + ")", d.restore(v), m.restore(v)); break;
    }
  }

  private static void ask(DotOutlines d, Model m) {
    int many = m.now == null ? 1 : Math.max(1, m.rings().size());
    int w = m.now == null ? 3 : m.now.width - 1, h = m.now == null ? 3 : m.now.height - 1;
    int n = near(0, many - 1), x = near(0, w), y = near(0, h);
    Ring r = m.ring(n);
    int size = r == null ? 4 : r.size();
    if (r != null) Model.seek(r);
    int k = near(0, r == null ? 3 : r.best.size() - 1), i = near(0, size - 1), s = near(1, pick(2) == 0 ? size - 1 : Math.min(size - 1, 9)), v = near(0, 5), kind = near(0, 1);
    switch (pick(20)) {
      case 0: due("dot(" + x + ", " + y + ")", d.dot(x, y), m.dot(x, y)); break;
      case 1: due("borders()", d.borders(), m.borders()); break;
      case 2: due("border(" + n + ", " + v + ")", d.border(n, v), m.border(n, v)); break;
      case 3: v = near(0, 2); i = near(0, 3 * size); due("corner(" + n + ", " + i + ", " + v + ")", d.corner(n, i, v), m.corner(n, i, v)); break;
      case 4: due("inside(" + n + ", " + x + ", " + y + ")", d.inside(n, x, y), m.inside(n, x, y)); break;
      case 5: due("straight(" + n + ", " + i + ", " + s + ")", d.straight(n, i, s), m.straight(n, i, s)); break;
      case 6: due("off(" + n + ", " + i + ", " + s + ")", d.off(n, i, s), m.off(n, i, s)); break;
      case 7: due("longest(" + n + ", " + i + ")", d.longest(n, i), m.longest(n, i)); break;
      case 8: case 9: v = near(0, 3); due("best(" + n + ", " + v + ")", d.best(n, v), m.best(n, v)); break;
      case 10: case 11: v = near(0, 2); due("vertex(" + n + ", " + k + ", " + v + ")", d.vertex(n, k, v), m.vertex(n, k, v)); break;
      case 12: due("past(" + n + ", " + i + ")", d.past(n, i), m.past(n, i)); break;
      case 13: case 14: i = near(1, 3); due("point(" + n + ", " + k + ", " + i + ", " + kind + ")", d.point(n, k, i, kind), m.point(n, k, i, kind)); break;
      case 15: due("filled(" + n + ", " + kind + ", " + x + ", " + y + ")", d.filled(n, kind, x, y), m.filled(n, kind, x, y)); break;
      case 16: due("differ(" + n + ", " + kind + ")", d.differ(n, kind), m.differ(n, kind)); break;
      case 17: due("wrong(" + kind + ")", d.wrong(kind), m.wrong(kind)); break;
      case 18: v = near(0, 2); due("all(" + v + ")", d.all(v), m.all(v)); break;
      default: due("count(" + v + ")", d.count(v), m.count(v)); break;
    }
  }

  private static void begin() {
    told.setLength(0);
    calls = 0;
  }

  // an object is used for 512 calls at most
  private static void mixedRun() {
    begin();
    DotOutlines d = new DotOutlines();
    Model m = new Model();
    for (int k = pick(4) == 0 ? 20 : 0; k > 0; k--) ask(d, m);
    while (calls < 400) {
      if (calls == 0 || pick(40) == 0) {
        if (pick(4) == 0) tell(d, m, broken(text()));
        else tell(d, m, text());
      }
      for (int k = pick(3); k > 0; k--) change(d, m);
      for (int k = pick(12); k > 0; k--) ask(d, m);
      if (pick(40) == 0) { int letter = near(0, 255); due("feed(" + letter + ")", d.feed(letter), m.feed(letter)); }
    }
  }

  // one picture, all that can be asked of it, on as many objects as that takes
  private static void wholePicture(String text, int joined, int sharp) {
    Model m = new Model();
    DotOutlines d = anew(m, text, joined, sharp);
    due("borders()", d.borders(), m.borders());
    for (int what = 0; what < 3; what++) due("all(" + what + ")", d.all(what), m.all(what));
    for (int kind = 0; kind < 2; kind++) due("wrong(" + kind + ")", d.wrong(kind), m.wrong(kind));
    for (int n = 0; n < m.borders(); n++) {
      for (int what = 0; what < 6; what++) due("border(" + n + ", " + what + ")", d.border(n, what), m.border(n, what));
      for (int what = 0; what < 4; what++) due("best(" + n + ", " + what + ")", d.best(n, what), m.best(n, what));
      for (int kind = 0; kind < 2; kind++) due("differ(" + n + ", " + kind + ")", d.differ(n, kind), m.differ(n, kind));
      if (calls > 300) d = anew(new Model(), text, joined, sharp);
      for (int k = 0; k < m.border(n, 0); k++) {
        due("past(" + n + ", " + k + ")", d.past(n, k), m.past(n, k));
        due("longest(" + n + ", " + k + ")", d.longest(n, k), m.longest(n, k));
        if (calls > 300) d = anew(new Model(), text, joined, sharp);
      }
      for (int k = 0; k < m.best(n, 0); k++) {
        for (int what = 0; what < 3; what++) due("vertex(" + n + ", " + k + ", " + what + ")", d.vertex(n, k, what), m.vertex(n, k, what));
        for (int i = 1; i < 4; i++) for (int what = 0; what < 2; what++) due("point(" + n + ", " + k + ", " + i + ", " + what + ")", d.point(n, k, i, what), m.point(n, k, i, what));
        if (calls > 300) d = anew(new Model(), text, joined, sharp);
      }
    }
  }

  private static DotOutlines anew(Model m, String text, int joined, int sharp) {
    begin();
    DotOutlines d = new DotOutlines();
    tell(d, m, text);
    due("joined(" + joined + ")", d.joined(joined), m.joined(joined));
    due("sharp(" + sharp + ")", d.sharp(sharp), m.sharp(sharp));
    return d;
  }

  // every picture of a size
  private static void allPictures(int w, int h) {
    for (int set = 0; set < 1 << w * h; set++) {
      StringBuilder text = new StringBuilder("d").append(w).append(h).append(';');
      for (int k = 0; k < w * h; k++) { text.append((set >> k & 1) == 1 ? 'x' : 'o'); if (k % w == w - 1) text.append(';'); }
      for (int joined = 0; joined < 2; joined++) wholePicture(text.toString(), joined, 1 + pick(10));
    }
  }

  public static void main(String[] args) {
    int times = args.length > 0 ? Integer.parseInt(args[0]) : 1;
    allPictures(3, 3);
    allPictures(4, 2);
    allPictures(1, 5);
    for (int joined = 0; joined < 2; joined++) {
      wholePicture("d88;" + "xoxoxoxo;oxoxoxox;".repeat(4), joined, 8);
      wholePicture("d88;" + "oxoxoxox;xoxoxoxo;".repeat(4), joined, 8);
      wholePicture("d88;" + "xxxxxxxx;".repeat(8), joined, 8);
      wholePicture("d85;xooooooo;xxxooooo;xxxxxooo;xxxxxxxo;xxxxxxxx;", joined, 8);
      wholePicture("d86;xxxxxxxx;xxxxxxxo;xxxxxxoo;xxxxoooo;xxxooooo;xooooooo;", joined, 32);
      wholePicture("d88;xxxxxxxx;xoooooox;xoxxxxox;xoxooxox;xoxoxxox;xoxooooo;xoxxxxxx;xooooooo;", joined, 8);
    }
    for (int n = 0; n < 300 * times; n++) wholePicture(text(), pick(2), 1 + pick(32));
    for (int n = 0; n < 600 * times; n++) mixedRun();
    System.out.println(wrong == 0 ? asked + " answers are as the model's" : wrong + " of " + asked + " answers are not as the model's");
    if (wrong != 0) System.exit(1);
  }
}
