import java.util.ArrayList;
import java.util.Arrays;
import java.util.List;
import java.util.regex.Matcher;
import java.util.regex.Pattern;

/**
 * The document once more, written for the tests alone and in another way than the class: states
 * that never change, every row of pegs tried, texts read by patterns.
 */
final class Slow {
  static final int BAD = -1, NO = -2, FULL = -3, NONE = -4;
  private static final String FIRST =
    "p0,7,0;p0,3,1;p1,4,0;p2,6,1;p3,9,3;w1,1;w3,2;w5,3;w7,0;r5,3;r7,7;r2,6;b5,5,3,0;t1;";
  private static final String N = "0?[0-9]";
  private static final Pattern ITEM = Pattern.compile(
    "(p)(0?[0-3]),(" + N + "),(0?[0-3]);|(w)(0?[1-9]),(0?[0-4]);|(r)(" + N + "),(" + N + ");"
    + "|(b)(" + N + "),(" + N + "),(0?[1-9]),(0?[0-3]);|(t)(0?[12]);");

  record State(int x, int y, int h, int c, int hours, int riders, int ahead) { }

  /** What a text tells. */
  private static final class Told {
    final List<int[]> pegs = new ArrayList<>();
    final List<int[]> roofs = new ArrayList<>();
    final int[] winds = {4, 4, 4, 4, 4, 4, 4, 4, 4, 4};
    int[] begin = {5, 5, 3, 0};
    int riders = 1;
    int fault = NONE;

    Told(String text) {
      Matcher m = ITEM.matcher(text);
      int at = 0;
      while (at < text.length() && fault == NONE) {
        m.region(at, text.length());
        if (!m.lookingAt() || !take(m.group())) fault = at;
        else at = m.end();
      }
    }

    private boolean take(String item) {
      String[] parts = item.substring(1, item.length() - 1).split(",");
      int[] n = Arrays.stream(parts).mapToInt(Integer::parseInt).toArray();
      switch (item.charAt(0)) {
        case 'p': pegs.add(n); return pegs.size() <= 7;
        case 'w': winds[n[0]] = n[1]; return true;
        case 'r': roofs.add(n); return roofs.size() <= 6;
        case 'b': begin = n; return true;
        default: riders = n[0]; return true;
      }
    }

    State first() {
      return new State(begin[0], begin[1], begin[2], begin[3], 0, riders, NONE);
    }
  }

  private String text = "";
  private Told told = new Told(FIRST);
  private State now = told.first();
  private List<State> past = new ArrayList<>();
  private List<State> kept = new ArrayList<>();
  private List<int[]> saw = new ArrayList<>();

  // ---- how it flies

  private int liftBy(int kind, int u, int c, boolean doubled, int riders) {
    int lift = u - 5;
    if (kind == 1 && doubled) lift = lift + lift;
    if (kind == 2 && (c == 2 || c == 3)) lift = 0 - lift;
    if (kind == 3 && riders == 2) lift = lift - 2;
    return lift;
  }

  private int liftNow(State s, int p) {
    boolean doubled = s.ahead != NONE && told.pegs.get(s.ahead)[0] == 1;
    int[] peg = told.pegs.get(p);
    return liftBy(peg[0], peg[1], s.c, doubled, s.riders);
  }

  private int rightNow(State s, int p) {
    int[] peg = told.pegs.get(p);
    if (peg[0] == 2 && (s.c == 2 || s.c == 3)) return (4 - peg[2]) % 4;
    return peg[2];
  }

  private static int[] moved(int[] at, int d) {
    int x = at[0];
    int y = at[1];
    if (d == 0 && y > 0) y--;
    if (d == 1 && x < 9) x++;
    if (d == 2 && y < 9) y++;
    if (d == 3 && x > 0) x--;
    return new int[] {x, y};
  }

  private State hour(State s, int h, int c, int ahead) {
    int[] at = moved(new int[] {s.x, s.y}, c);
    if (h > 0) at = moved(at, told.winds[h]);
    return new State(at[0], at[1], h, c, s.hours + 1, s.riders, ahead);
  }

  private State turned(State s, int p) {
    int h = s.h + liftNow(s, p);
    if (h < 0) h = 0;
    if (h > 9) h = 9;
    return hour(s, h, (s.c + rightNow(s, p)) % 4, p);
  }

  private boolean on(State s, int r) {
    return s.h == 0 && told.roofs.get(r)[0] == s.x && told.roofs.get(r)[1] == s.y;
  }

  private boolean landed(State s) {
    for (int r = 0; r < told.roofs.size(); r++) if (on(s, r)) return true;
    return false;
  }

  private boolean fallen(State s) {
    return s.h == 0 && !landed(s);
  }

  private boolean down(State s) {
    return landed(s) || fallen(s);
  }

  private boolean noPeg(int p) {
    return p < 0 || p >= told.pegs.size();
  }

  private boolean noRoof(int r) {
    return r < 0 || r >= told.roofs.size();
  }

  private void remember() {
    past.add(now);
    if (past.size() > 8) past.remove(0);
  }

  // ---- the face

  int write(int letter) {
    if (letter < 32 || letter > 126) return BAD;
    if (text.length() == 200) return FULL;
    text = text + (char) letter;
    return text.length();
  }

  int wipe() {
    int was = text.length();
    text = "";
    return was;
  }

  int fault() {
    return new Told(text).fault;
  }

  int lay() {
    Told next = new Told(text);
    if (next.fault != NONE || next.pegs.isEmpty()) return NO;
    told = next;
    now = told.first();
    past = new ArrayList<>();
    kept = new ArrayList<>();
    saw = new ArrayList<>();
    return told.pegs.size();
  }

  int peg(int p, int what) {
    if (noPeg(p) || what < 0 || what > 4) return BAD;
    if (what < 3) return told.pegs.get(p)[what];
    return what == 3 ? 20 + liftNow(now, p) : rightNow(now, p);
  }

  int wind(int h) {
    return h >= 1 && h <= 9 ? told.winds[h] : BAD;
  }

  int roof(int r, int what) {
    return noRoof(r) || what < 0 || what > 1 ? BAD : told.roofs.get(r)[what];
  }

  int turn(int p) {
    if (noPeg(p)) return BAD;
    if (down(now)) return NO;
    remember();
    now = turned(now, p);
    return now.h;
  }

  int flyOn() {
    if (down(now)) return NO;
    remember();
    now = hour(now, now.h, now.c, NONE);
    return 10 * now.y + now.x;
  }

  int setDown() {
    if (now.riders != 2 || !landed(now)) return NO;
    remember();
    now = new State(now.x, now.y, 1, now.c, now.hours, 1, NONE);
    return 1;
  }

  int undo() {
    if (past.isEmpty()) return NO;
    now = past.remove(past.size() - 1);
    return past.size();
  }

  int now(int what) {
    if (what < 0 || what > 8) return BAD;
    int[] all = {now.x, now.y, now.h, now.c, now.hours, now.riders, landed(now) ? 1 : 0, fallen(now) ? 1 : 0, now.ahead};
    return all[what];
  }

  int safe() {
    int bits = 0;
    for (int p = 0; p < told.pegs.size() && !down(now); p++) if (!fallen(turned(now, p))) bits |= 1 << p;
    return bits;
  }

  /** The first row of so many pegs, by the first peg, then the second, .., that lands on r; or null. */
  private int[] row(State s, int r, int left) {
    if (left == 0) return on(s, r) ? new int[0] : null;
    if (down(s)) return null;
    for (int p = 0; p < told.pegs.size(); p++) {
      int[] rest = row(turned(s, p), r, left - 1);
      if (rest != null) {
        int[] whole = new int[rest.length + 1];
        whole[0] = p;
        System.arraycopy(rest, 0, whole, 1, rest.length);
        return whole;
      }
    }
    return null;
  }

  private int[] shortest(int r, int most) {
    for (int n = 0; n <= most; n++) {
      int[] row = row(now, r, n);
      if (row != null) return row;
    }
    return null;
  }

  int way(int r, int k) {
    if (noRoof(r) || k < -1 || k > 5) return BAD;
    int[] row = shortest(r, 6);
    if (row == null) return NONE;
    if (k == -1) return row.length;
    return k < row.length ? row[k] : NONE;
  }

  int near(int n) {
    if (n < 0 || n > 5) return BAD;
    int bits = 0;
    for (int r = 0; r < told.roofs.size(); r++) if (shortest(r, n) != null) bits |= 1 << r;
    return bits;
  }

  int undoes(int p) {
    if (noPeg(p)) return BAD;
    if (down(now)) return 0;
    State own = turned(now, p);
    int bits = 0;
    for (int q = 0; q < told.pegs.size() && !down(own); q++) {
      State both = turned(own, q);
      if (both.h == now.h && both.c == now.c) bits |= 1 << q;
    }
    return bits;
  }

  int either(int p, int q) {
    if (noPeg(p) || noPeg(q)) return BAD;
    if (down(now) || down(turned(now, p)) || down(turned(now, q))) return 0;
    State one = turned(turned(now, p), q);
    State other = turned(turned(now, q), p);
    boolean alike = one.x == other.x && one.y == other.y && one.h == other.h && one.c == other.c
      && landed(one) == landed(other) && fallen(one) == fallen(other);
    return alike ? 1 : 0;
  }

  int drift(int n) {
    if (n < 1 || n > 20) return BAD;
    if (down(now)) return NO;
    State s = now;
    for (int i = 0; i < n; i++) s = hour(s, s.h, s.c, NONE);
    return 10 * s.y + s.x;
  }

  int seen(int p, int c, int v) {
    if (noPeg(p) || c < 0 || c > 3 || v < 0 || v > 36) return BAD;
    if (saw.size() == 6) return FULL;
    saw.add(new int[] {p, c, v});
    return saw.size();
  }

  int forget() {
    int were = saw.size();
    saw.clear();
    return were;
  }

  private boolean wouldBeSo(int p, int kind, int u) {
    return saw.stream().filter(s -> s[0] == p).allMatch(s -> liftBy(kind, u, s[1], false, 1) + 18 == s[2]);
  }

  int may(int p, int what) {
    if (noPeg(p) || what < 0 || what > 1) return BAD;
    int bits = 0;
    if (what == 0) {
      for (int kind = 0; kind < 4; kind++) if (wouldBeSo(p, kind, told.pegs.get(p)[1])) bits |= 1 << kind;
    } else {
      for (int u = 0; u < 10; u++) if (wouldBeSo(p, told.pegs.get(p)[0], u)) bits |= 1 << u;
    }
    return bits;
  }

  int which(int x, int y, int h) {
    if (x < 0 || x > 9 || y < 0 || y > 9 || h < 0 || h > 9) return BAD;
    int bits = 0;
    for (int p = 0; p < told.pegs.size(); p++) {
      State s = turned(told.first(), p);
      if (s.x == x && s.y == y && s.h == h) bits |= 1 << p;
    }
    return bits;
  }

  /** Every row of n pegs is flown by itself. */
  int likely(int n, int part) {
    if (n < 0 || n > 5 || part < 0 || part > 1) return BAD;
    int many = told.pegs.size();
    int rows = 1;
    for (int i = 0; i < n; i++) rows *= many;
    int good = 0;
    for (int row = 0; row < rows; row++) {
      State s = now;
      int rest = row;
      for (int i = 0; i < n && !down(s); i++) {
        s = turned(s, rest % many);
        rest /= many;
      }
      if (landed(s)) good++;
    }
    int common = 1;
    for (int d = 1; d <= rows; d++) if (rows % d == 0 && good % d == 0) common = d;
    return part == 0 ? good / common : rows / common;
  }

  int flight(int z, int n, int what) {
    if (z < 0 || z > 9999 || n < 1 || n > 40 || what < 0 || what > 1) return BAD;
    State s = now;
    int turns = 0;
    for (int i = 0; i < n && !down(s); i++) {
      long x = 7919L * z + 6151L * i + 1;
      long rest = x % 65521;
      long draw = rest * rest % 65521 >> 3;
      s = turned(s, (int) (draw % told.pegs.size()));
      turns = i + 1;
    }
    if (what == 1) return 100 * s.h + 10 * s.y + s.x;
    return landed(s) ? turns : NONE;
  }

  int keep() {
    if (kept.size() == 2) return FULL;
    kept.add(now);
    return kept.size();
  }

  int back() {
    if (kept.isEmpty()) return NO;
    now = kept.remove(kept.size() - 1);
    past.clear();
    return kept.size();
  }

  int count(int what) {
    if (what < 0 || what > 5) return BAD;
    int[] all = {told.pegs.size(), told.roofs.size(), saw.size(), past.size(), kept.size(), text.length()};
    return all[what];
  }
}
