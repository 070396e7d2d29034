import java.math.BigInteger;
import java.util.ArrayDeque;
import java.util.ArrayList;
import java.util.Arrays;
import java.util.Comparator;
import java.util.HashMap;
import java.util.HashSet;
import java.util.List;
import java.util.Map;
import java.util.Set;
import java.util.TreeMap;
import java.util.TreeSet;

/**
 * The document once more, written as plainly as can be and with no thought for speed: FuzzTest
 * compares TrackVotes with it, call by call.
 */
final class NaiveVotes {
  private static final int BENDS = 0, SLOPES = 1, WIDTH = 2, NEED = 3, GAP = 4, FROM = 5, TO = 6, SPEED = 7, LIMIT = 8;

  static final class Fault extends RuntimeException {
    private static final long serialVersionUID = 1L;
    final int at;
    Fault(int at) { super(null, null, false, false); this.at = at; }
  }

  /** A fraction in lowest terms. */
  static final class Frac implements Comparable<Frac> {
    final BigInteger up, low;
    Frac(BigInteger up, BigInteger low) {
      if (low.signum() < 0) { up = up.negate(); low = low.negate(); }
      BigInteger g = up.gcd(low);
      this.up = up.divide(g);
      this.low = low.divide(g);
    }
    static Frac of(long n) { return new Frac(BigInteger.valueOf(n), BigInteger.ONE); }
    Frac plus(Frac o) { return new Frac(up.multiply(o.low).add(o.up.multiply(low)), low.multiply(o.low)); }
    Frac less(Frac o) { return plus(new Frac(o.up.negate(), o.low)); }
    Frac times(Frac o) { return new Frac(up.multiply(o.up), low.multiply(o.low)); }
    Frac by(Frac o) { return new Frac(up.multiply(o.low), low.multiply(o.up)); }
    Frac abs() { return new Frac(up.abs(), low); }
    int floor() {
      BigInteger[] parts = up.divideAndRemainder(low);
      return (parts[1].signum() < 0 ? parts[0].subtract(BigInteger.ONE) : parts[0]).intValueExact();
    }
    @Override public int compareTo(Frac o) { return up.multiply(o.low).compareTo(o.up.multiply(low)); }
  }

  static final class Hit {
    int layer, y, time, particle;
    Hit(int layer, int y, int time, int particle) { this.layer = layer; this.y = y; this.time = time; this.particle = particle; }
  }

  static final class All {
    final List<Integer> x = new ArrayList<>();
    final List<Boolean> alive = new ArrayList<>();
    final List<Hit> hits = new ArrayList<>();
    final List<int[]> particles = new ArrayList<>();
    int[] set = {1, 10, 10, 3, 20, 0, 999, 100, 50};
    String trigger = "";
    All copy() {
      All o = new All();
      o.x.addAll(x);
      o.alive.addAll(alive);
      for (Hit h : hits) o.hits.add(new Hit(h.layer, h.y, h.time, h.particle));
      for (int[] p : particles) o.particles.add(p.clone());
      o.set = set.clone();
      o.trigger = trigger;
      return o;
    }
    boolean counts(int h) {
      Hit hit = hits.get(h);
      return hit.time >= 0 && alive.get(hit.layer) && hit.time >= set[FROM] && hit.time <= set[TO];
    }
    int lift(int l, int t, int k) {
      long X = x.get(l);
      return (int) (Math.floor(t * X / 100.0) + Math.floor(k * X * X / 10000.0));
    }
    int cell(int h, int k, int t) {
      Hit hit = hits.get(h);
      return (int) Math.floor((hit.y - lift(hit.layer, t, k)) / (double) set[WIDTH]);
    }
  }

  static final class Trk {
    int k, t, b, vertex;
    final TreeMap<Integer, Integer> hitOn = new TreeMap<>();
    Frac a, slope, off;
  }

  static final class Cell {
    final int k, t, b, votes;
    Cell(int k, int t, int b, int votes) { this.k = k; this.t = t; this.b = b; this.votes = votes; }
    static final Comparator<Cell> ORDER = Comparator.<Cell>comparingInt(c -> -c.votes)
        .thenComparingInt(c -> Math.abs(c.k)).thenComparingInt(c -> Math.abs(c.t))
        .thenComparingInt(c -> c.k).thenComparingInt(c -> c.t).thenComparingInt(c -> c.b);
  }

  private All all = new All();
  private final ArrayDeque<All> before = new ArrayDeque<>();
  private final All[] kept = new All[2];
  private final StringBuilder tape = new StringBuilder();
  private int fault = -1, ended = -1;
  private String written = "";
  private List<Trk> known;
  private List<Cell> knownGhosts;

  // ---- texts

  int feed(int a, int b, int c, int d, int e) {
    if (tape.length() + 20 > 500) return -1;
    for (int w : new int[] {a, b, c, d, e}) for (int i = 3; i >= 0; i--) tape.append((char) (w >> 8 * i & 255));
    return tape.length();
  }

  int end(int n) {
    if (n < 0 || n > tape.length()) return -1;
    tape.setLength(n);
    return n;
  }

  private String in;
  private int at;
  private int start;

  private char sign() { return at < in.length() ? in.charAt(at) : '\uffff'; }

  private static boolean digit(char c) { return c >= '0' && c <= '9'; }

  private int number(boolean sign) {
    start = at;
    if (sign && sign() == '-') at++;
    int first = at;
    while (digit(sign())) {
      if (at - first == 4) throw new Fault(at);
      at++;
    }
    if (at == first) throw new Fault(at);
    return Integer.parseInt(in.substring(start, at));
  }

  private void pass(char c) {
    if (sign() != c) throw new Fault(at);
    at++;
  }

  private void can(boolean possible) {
    if (!possible) throw new Fault(start);
  }

  private int ranged(int least, int most, char behind) {
    int n = number(true);
    can(n >= least && n <= most);
    pass(behind);
    return n;
  }

  private void take() {
    in = tape.toString();
    at = 0;
    tape.setLength(0);
    fault = -1;
  }

  private void deed() {
    before.addLast(all.copy());
    if (before.size() > 8) before.removeFirst();
    known = null;
    knownGhosts = null;
  }

  int text() {
    take();
    All next = all.copy();
    int items = 0;
    try {
      for (; at < in.length(); items++) item(next);
    } catch (Fault f) {
      fault = f.at;
      return -1;
    }
    deed();
    all = next;
    return items;
  }

  private void item(All s) {
    int letterAt = at;
    char letter = sign();
    at++;
    switch (letter) {
      case 'r': {
        if (s.x.size() == 8) throw new Fault(letterAt);
        int least = s.x.isEmpty() ? 1 : s.x.get(s.x.size() - 1) + 1;
        s.x.add(ranged(least, 999, ';'));
        s.alive.add(true);
        break;
      }
      case 'h':
        if (s.hits.size() == 60) throw new Fault(letterAt);
        s.hits.add(new Hit(ranged(0, s.x.size() - 1, ','), ranged(-9999, 9999, ','), ranged(0, 999, ';'), -2));
        break;
      case 'p': {
        if (s.particles.size() == 12) throw new Fault(letterAt);
        int[] p = {ranged(-9999, 9999, ','), ranged(-50, 50, ','), ranged(-5, 5, ';')};
        s.particles.add(p);
        for (int l = 0; l < s.x.size(); l++) {
          int y = p[0] + s.lift(l, p[1], p[2]);
          if (y < -9999 || y > 9999) continue;
          if (s.hits.size() == 60) throw new Fault(letterAt);
          s.hits.add(new Hit(l, y, s.x.get(l) / 10, s.particles.size() - 1));
        }
        break;
      }
      case 's':
        s.set[BENDS] = ranged(0, 3, ',');
        s.set[SLOPES] = ranged(0, 20, ',');
        s.set[WIDTH] = ranged(1, 500, ',');
        s.set[NEED] = ranged(2, 8, ';');
        break;
      case 'g': s.set[GAP] = ranged(0, 999, ';'); break;
      case 'w':
        s.set[FROM] = ranged(0, 999, ',');
        s.set[TO] = ranged(s.set[FROM], 999, ';');
        break;
      case 'q':
        s.set[SPEED] = ranged(1, 9999, ',');
        s.set[LIMIT] = ranged(0, 9999, ';');
        break;
      default: throw new Fault(letterAt);
    }
  }

  private int things;

  int trigger() {
    take();
    things = 0;
    if (!in.isEmpty()) {
      try {
        cond(0, false);
        if (at < in.length()) throw new Fault(at);
      } catch (Fault f) {
        fault = f.at;
        return -1;
      }
    }
    deed();
    all.trigger = in;
    return things;
  }

  private boolean cond(int depth, boolean real) {
    boolean holds = both(depth, real);
    while (sign() == '|') { at++; holds |= both(depth, real); }
    return holds;
  }

  private boolean both(int depth, boolean real) {
    boolean holds = test(depth, real);
    while (sign() == '&') { at++; holds &= test(depth, real); }
    return holds;
  }

  private boolean test(int depth, boolean real) {
    char c = sign();
    if ((c == '!' || c == '(') && depth == 6) throw new Fault(at);
    if (c == '!') { at++; return !test(depth + 1, real); }
    if (c == '(') {
      at++;
      boolean holds = cond(depth + 1, real);
      pass(')');
      return holds;
    }
    int left = sum(real);
    char how = sign();
    if (how != '<' && how != '>' && how != '=') throw new Fault(at);
    at++;
    int right = sum(real);
    return how == '<' ? left < right : how == '>' ? left > right : left == right;
  }

  private int sum(boolean real) {
    int sum = oneThing(real);
    while (sign() == '+' || sign() == '-' || sign() == '*') {
      char how = sign();
      at++;
      int n = oneThing(real);
      sum = how == '+' ? sum + n : how == '-' ? sum - n : sum * n;
    }
    return sum;
  }

  private int oneThing(boolean real) {
    char c = sign();
    if (things == 30) throw new Fault(at);
    things++;
    if (digit(c)) return number(false);
    if ("nhvgmluo".indexOf(c) < 0) throw new Fault(at);
    at++;
    return real ? thing(c) : 0;
  }

  int yes() {
    if (all.trigger.isEmpty()) return 0;
    in = all.trigger;
    at = 0;
    things = 0;
    return cond(0, true) ? 1 : 0;
  }

  int acts() {
    take();
    List<int[]> acts = new ArrayList<>();
    try {
      while (at < in.length()) {
        if (acts.size() == 20) throw new Fault(at);
        char letter = sign();
        if ("hxdn".indexOf(letter) < 0) throw new Fault(at);
        at++;
        int[] act = new int[letter == 'h' ? 4 : 2];
        act[0] = letter;
        for (int i = 1; i < act.length; i++) {
          act[i] = number(true);
          pass(i + 1 < act.length ? ',' : ';');
        }
        acts.add(act);
      }
    } catch (Fault f) {
      fault = f.at;
      return -1;
    }
    ended = -1;
    int done = 0;
    for (int[] a : acts) {
      int answer = a[0] == 'h' ? add(a[1], a[2], a[3]) : a[0] == 'x' ? strike(a[1]) : a[0] == 'd' ? dead(a[1]) : need(a[1]);
      if (answer == -1) { ended = done; break; }
      done++;
    }
    return done;
  }

  int fault() { return fault; }

  int ended() { return ended; }

  // ---- what there is

  private int counting() {
    int n = 0;
    for (int h = 0; h < all.hits.size(); h++) if (all.counts(h)) n++;
    return n;
  }

  private int live() {
    int n = 0;
    for (boolean a : all.alive) if (a) n++;
    return n;
  }

  private boolean noLayer(int l) { return l < 0 || l >= all.x.size(); }

  int is(int what) {
    int[] answers = {all.x.size(), live(), all.hits.size(), counting(), all.particles.size(), all.set[0], all.set[1],
        all.set[2], all.set[3], all.set[4], all.set[5], all.set[6], all.set[7], all.set[8], before.size(), tape.length()};
    return what < 0 || what >= answers.length ? -1 : answers[what];
  }

  int layer(int l, int what) {
    if (noLayer(l) || what < 0 || what > 2) return -1;
    if (what == 0) return all.x.get(l);
    if (what == 1) return all.alive.get(l) ? 1 : 0;
    int n = 0;
    for (int h = 0; h < all.hits.size(); h++) if (all.counts(h) && all.hits.get(h).layer == l) n++;
    return n;
  }

  int hit(int h, int what) {
    if (h < 0 || h >= all.hits.size() || what < 0 || what > 5) return -100000;
    Hit hit = all.hits.get(h);
    switch (what) {
      case 0: return hit.layer;
      case 1: return hit.y;
      case 2: return hit.time;
      case 3: return hit.particle;
      case 4: return all.counts(h) ? 1 : 0;
      default: return trackOf(h);
    }
  }

  private int trackOf(int h) {
    for (int i = 0; i < tracks().size(); i++) if (tracks().get(i).hitOn.containsValue(h)) return i;
    return -2;
  }

  int particle(int p, int what) {
    if (p < 0 || p >= all.particles.size() || what < 0 || what > 4) return -100000;
    if (what < 3) return all.particles.get(p)[what];
    return what == 3 ? leftThatCount(p) : found(p, tracks());
  }

  private int leftThatCount(int p) {
    int n = 0;
    for (int h = 0; h < all.hits.size(); h++) if (all.hits.get(h).particle == p && all.counts(h)) n++;
    return n;
  }

  private int leftOn(Trk t, int p) {
    int n = 0;
    for (int h : t.hitOn.values()) if (all.hits.get(h).particle == p) n++;
    return n;
  }

  private int found(int p, List<Trk> tracks) {
    int best = -2, most = 0;
    for (int i = 0; i < tracks.size(); i++) {
      int n = leftOn(tracks.get(i), p);
      if (n > most) { most = n; best = i; }
    }
    return most * 2 >= leftThatCount(p) ? best : -2;
  }

  int lift(int l, int t, int k) {
    return noLayer(l) || Math.abs((long) t) > 99 || Math.abs((long) k) > 99 ? -100000 : all.lift(l, t, k);
  }

  int votes(int k, int t, int b) {
    if (Math.abs((long) k) > all.set[BENDS] || Math.abs((long) t) > all.set[SLOPES]) return -1;
    Set<Integer> on = new HashSet<>();
    for (int h = 0; h < all.hits.size(); h++) if (all.counts(h) && all.cell(h, k, t) == b) on.add(all.hits.get(h).layer);
    return on.size();
  }

  // ---- tracks

  private static List<Cell> cells(All s, List<Integer> hits) {
    List<Cell> cells = new ArrayList<>();
    for (int k = -s.set[BENDS]; k <= s.set[BENDS]; k++) {
      for (int t = -s.set[SLOPES]; t <= s.set[SLOPES]; t++) {
        Map<Integer, Set<Integer>> on = new HashMap<>();
        for (int h : hits) on.computeIfAbsent(s.cell(h, k, t), b -> new HashSet<>()).add(s.hits.get(h).layer);
        for (Map.Entry<Integer, Set<Integer>> e : on.entrySet()) cells.add(new Cell(k, t, e.getKey(), e.getValue().size()));
      }
    }
    return cells;
  }

  private static List<Integer> countingOf(All s) {
    List<Integer> hits = new ArrayList<>();
    for (int h = 0; h < s.hits.size(); h++) if (s.counts(h)) hits.add(h);
    return hits;
  }

  private static List<Trk> find(All s, int need) {
    List<Integer> left = countingOf(s);
    List<Trk> tracks = new ArrayList<>();
    while (tracks.size() < 20) {
      Cell best = cells(s, left).stream().min(Cell.ORDER).orElse(null);
      if (best == null || best.votes < need) break;
      Trk trk = new Trk();
      trk.k = best.k;
      trk.t = best.t;
      trk.b = best.b;
      int middle = best.b * s.set[WIDTH] + s.set[WIDTH] / 2;
      Map<Integer, Integer> away = new HashMap<>();
      for (int h : left) {
        if (s.cell(h, best.k, best.t) != best.b) continue;
        Hit hit = s.hits.get(h);
        int d = Math.abs(hit.y - s.lift(hit.layer, best.t, best.k) - middle);
        if (!away.containsKey(hit.layer) || d < away.get(hit.layer)) {
          away.put(hit.layer, d);
          trk.hitOn.put(hit.layer, h);
        }
      }
      left.removeAll(trk.hitOn.values());
      tracks.add(trk);
    }
    return tracks;
  }

  private List<Trk> tracks() {
    if (known == null) {
      known = find(all, all.set[NEED]);
      for (Trk t : known) draw(t);
      join();
    }
    return known;
  }

  private Frac flat(Trk t, int l) { return Frac.of(all.hits.get(t.hitOn.get(l)).y - all.lift(l, 0, t.k)); }

  private Frac off(Trk t, int l) { return flat(t, l).less(t.a.plus(t.slope.times(Frac.of(all.x.get(l))))); }

  private void draw(Trk t) {
    Frac n = Frac.of(t.hitOn.size()), meanX = Frac.of(0), meanY = Frac.of(0);
    for (int l : t.hitOn.keySet()) {
      meanX = meanX.plus(Frac.of(all.x.get(l)));
      meanY = meanY.plus(flat(t, l));
    }
    meanX = meanX.by(n);
    meanY = meanY.by(n);
    Frac xy = Frac.of(0), xx = Frac.of(0);
    for (int l : t.hitOn.keySet()) {
      Frac dx = Frac.of(all.x.get(l)).less(meanX);
      xy = xy.plus(dx.times(flat(t, l).less(meanY)));
      xx = xx.plus(dx.times(dx));
    }
    t.slope = xy.by(xx);
    t.a = meanY.less(t.slope.times(meanX));
    t.off = Frac.of(0);
    for (int l : t.hitOn.keySet()) t.off = t.off.plus(off(t, l).times(off(t, l)));
  }

  private List<List<Trk>> vertices = new ArrayList<>();

  private void join() {
    vertices = new ArrayList<>();
    List<Trk> sorted = new ArrayList<>(known);
    sorted.sort(Comparator.comparingInt(t -> t.a.floor()));
    Trk ahead = null;
    for (Trk t : sorted) {
      if (ahead == null || t.a.floor() - ahead.a.floor() > all.set[GAP]) vertices.add(new ArrayList<>());
      vertices.get(vertices.size() - 1).add(t);
      t.vertex = vertices.size() - 1;
      ahead = t;
    }
  }

  private List<Cell> ghosts() {
    if (knownGhosts == null) {
      Set<List<Integer>> taken = new HashSet<>();
      for (Trk t : tracks()) taken.add(Arrays.asList(t.k, t.t, t.b));
      TreeSet<Cell> found = new TreeSet<>(Cell.ORDER);
      for (Cell c : cells(all, countingOf(all))) {
        if (c.votes >= all.set[NEED] && !taken.contains(Arrays.asList(c.k, c.t, c.b))) found.add(c);
      }
      knownGhosts = new ArrayList<>(found);
    }
    return knownGhosts;
  }

  int many(int what) {
    if (what < 0 || what > 5) return -1;
    return thing("ngvumo".charAt(what));
  }

  int thing(int letter) {
    switch (letter) {
      case 'n': return tracks().size();
      case 'h': return counting();
      case 'v': tracks(); return vertices.size();
      case 'g': return ghosts().size();
      case 'm': return tracks().stream().mapToInt(t -> t.hitOn.size()).max().orElse(0);
      case 'l': return live();
      case 'u': {
        int n = 0;
        for (int h = 0; h < all.hits.size(); h++) if (all.counts(h) && trackOf(h) == -2) n++;
        return n;
      }
      case 'o': tracks(); return vertices.stream().mapToInt(List::size).max().orElse(0);
      default: return -1;
    }
  }

  private boolean noTrack(int i) { return i < 0 || i >= tracks().size(); }

  int track(int i, int what) {
    if (noTrack(i) || what < 0 || what > 8) return -100000;
    Trk t = tracks().get(i);
    int most = 0, who = -2;
    for (int p = 0; p < all.particles.size(); p++) if (leftOn(t, p) > most) { most = leftOn(t, p); who = p; }
    Frac smear = Frac.of(0);
    for (int l : t.hitOn.keySet()) if (off(t, l).abs().compareTo(smear) > 0) smear = off(t, l).abs();
    return new int[] {t.k, t.t, t.b, t.hitOn.size(), t.vertex, t.a.floor(), smear.floor(), most, who}[what];
  }

  int of(int i, int l) { return noTrack(i) || noLayer(l) ? -1 : tracks().get(i).hitOn.getOrDefault(l, -2); }

  long fit(int i, int what) {
    if (noTrack(i) || what < 0 || what > 5) return -1000000000000L;
    Trk t = tracks().get(i);
    Frac f = what < 2 ? t.a : what < 4 ? t.slope : t.off;
    return (what % 2 == 0 ? f.up : f.low).longValueExact();
  }

  int vertex(int v, int what) {
    tracks();
    if (v < 0 || v >= vertices.size() || what < 0 || what > 1) return -100000;
    List<Trk> of = vertices.get(v);
    if (what == 0) return of.size();
    Frac sum = Frac.of(0);
    for (Trk t : of) sum = sum.plus(Frac.of(t.a.floor()));
    return sum.by(Frac.of(of.size())).floor();
  }

  // ---- events that wait

  int work() { return counting() * (2 * all.set[BENDS] + 1) * (2 * all.set[SLOPES] + 1) + 10 * tracks().size(); }

  int queue(int n, int period, int w, int b, int what) {
    if (n < 1 || n > 200 || period < 1 || period > 999 || w < 1 || w > 8 || b < 0 || b > 50 || what < 0 || what > 3) return -1;
    int ticks = Math.max(1, (int) Math.ceil(work() / (double) all.set[SPEED]));
    ArrayDeque<Integer> wait = new ArrayDeque<>();
    List<int[]> busy = new ArrayList<>();
    int lost = 0, late = 0, most = 0, last = 0, come = 0;
    for (int tick = 0; come < n || !wait.isEmpty() || !busy.isEmpty(); tick++) {
      for (int i = busy.size() - 1; i >= 0; i--) {
        if (busy.get(i)[0] == tick) {
          if (tick - busy.get(i)[1] > all.set[LIMIT]) late++;
          last = tick;
          busy.remove(i);
        }
      }
      while (!wait.isEmpty() && busy.size() < w) busy.add(new int[] {tick + ticks, wait.removeFirst()});
      if (come < n && tick == come * period) {
        come++;
        if (busy.size() < w) busy.add(new int[] {tick + ticks, tick});
        else if (wait.size() < b) wait.addLast(tick);
        else lost++;
      }
      most = Math.max(most, wait.size());
    }
    return new int[] {lost, late, most, last}[what];
  }

  int workers(int n, int period, int b) {
    if (queue(n, period, 1, b, 0) == -1) return -1;
    for (int w = 1; w <= 8; w++) if (queue(n, period, w, b, 0) == 0 && queue(n, period, w, b, 1) == 0) return w;
    return -2;
  }

  int worth(int l) {
    if (noLayer(l)) return -100000;
    All other = all.copy();
    other.alive.set(l, false);
    return tracks().size() - find(other, all.set[NEED]).size();
  }

  int bestNeed(int what) {
    if (what < 0 || what > 2) return -1;
    int[] best = null;
    for (int n = 2; n <= 8; n++) {
      List<Trk> by = find(all, n);
      Set<Integer> taken = new HashSet<>();
      int found = 0;
      for (int p = 0; p < all.particles.size(); p++) if (found(p, by) >= 0) { found++; taken.add(found(p, by)); }
      int none = by.size() - taken.size();
      if (best == null || found - none > best[1] - best[2]) best = new int[] {n, found, none};
    }
    return best[what];
  }

  // ---- deeds

  int add(int layer, int y, int time) {
    if (noLayer(layer) || y < -9999 || y > 9999 || time < 0 || time > 999 || all.hits.size() == 60) return -1;
    deed();
    all.hits.add(new Hit(layer, y, time, -2));
    return all.hits.size() - 1;
  }

  int strike(int h) {
    if (h < 0 || h >= all.hits.size() || all.hits.get(h).time == -1) return -1;
    deed();
    all.hits.get(h).time = -1;
    return counting();
  }

  int dead(int l) {
    if (noLayer(l)) return -1;
    deed();
    all.alive.set(l, !all.alive.get(l));
    return all.alive.get(l) ? 1 : 0;
  }

  int need(int n) {
    if (n < 2 || n > 8) return -1;
    deed();
    int was = all.set[NEED];
    all.set[NEED] = n;
    return was;
  }

  long cross(int i, int j, int what) {
    if (noTrack(i) || noTrack(j) || i == j || what < 0 || what > 1) return -1000000000000L;
    Trk s = tracks().get(i), t = tracks().get(j);
    Frac slopes = s.slope.less(t.slope);
    if (slopes.up.signum() == 0) return -2;
    Frac x = t.a.less(s.a).by(slopes);
    return (what == 0 ? x.up : x.low).longValueExact();
  }

  int predicted(int i, int l) {
    if (noTrack(i) || noLayer(l)) return -100000;
    Trk t = tracks().get(i);
    return t.a.plus(t.slope.times(Frac.of(all.x.get(l)))).floor() + all.lift(l, 0, t.k);
  }

  int missing(int i) {
    if (noTrack(i)) return -1;
    int n = 0;
    for (int l = 0; l < all.x.size(); l++) if (all.alive.get(l) && of(i, l) == -2) n++;
    return n;
  }

  int nearest(int i, int l) {
    if (noTrack(i) || noLayer(l)) return -1;
    int best = -2, least = Integer.MAX_VALUE;
    for (int h = 0; h < all.hits.size(); h++) {
      if (all.hits.get(h).layer != l || !all.counts(h) || trackOf(h) != -2) continue;
      int d = Math.abs(all.hits.get(h).y - predicted(i, l));
      if (d < least) { least = d; best = h; }
    }
    return best;
  }

  int offset(int l, int what) {
    if (noLayer(l) || what < 0 || what > 1) return -100000;
    int n = 0, sum = 0;
    for (int i = 0; i < tracks().size(); i++) {
      if (of(i, l) < 0) continue;
      n++;
      sum += all.hits.get(of(i, l)).y - predicted(i, l);
    }
    return what == 1 ? n : n == 0 ? 0 : Frac.of(sum).by(Frac.of(n)).floor();
  }

  int align(int l, int by) {
    if (noLayer(l) || by < -999 || by > 999) return -1;
    deed();
    int n = 0;
    for (Hit h : all.hits) {
      if (h.layer != l || Math.abs(h.y + by) > 9999) continue;
      h.y += by;
      n++;
    }
    return n;
  }

  int ghost(int i, int what) {
    if (i < 0 || i > 19 || i >= ghosts().size() || what < 0 || what > 3) return -100000;
    Cell c = ghosts().get(i);
    return new int[] {c.k, c.t, c.b, c.votes}[what];
  }

  int window(int ticks, int what) {
    if (ticks < 1 || ticks > 1000 || what < 0 || what > 1) return -1;
    int first = 0, most = -1;
    for (int s = 0; s + ticks <= 1000; s++) {
      int n = 0;
      for (Hit h : all.hits) if (all.alive.get(h.layer) && h.time >= s && h.time < s + ticks) n++;
      if (n > most) { most = n; first = s; }
    }
    return what == 0 ? first : most;
  }

  int undo() {
    if (before.isEmpty()) return -1;
    all = before.removeLast();
    known = null;
    knownGhosts = null;
    return before.size();
  }

  boolean keep(int k) {
    if (k != 0 && k != 1) return false;
    kept[k] = all.copy();
    return true;
  }

  boolean restore(int k) {
    if ((k != 0 && k != 1) || kept[k] == null) return false;
    deed();
    all = kept[k].copy();
    return true;
  }

  int write() {
    StringBuilder out = new StringBuilder();
    for (int x : all.x) out.append("r").append(x).append(";");
    int[] s = all.set;
    out.append(String.format("s%d,%d,%d,%d;g%d;w%d,%d;q%d,%d;", s[0], s[1], s[2], s[3], s[4], s[5], s[6], s[7], s[8]));
    written = out.toString();
    return written.length();
  }

  int octet(int k) { return k < 0 || k >= written.length() ? -1 : written.charAt(k); }
}
