/** The edges of votes, tracks and what is worked out of them (promises 10 to 26, 31 to 35, 37, 38). */
public final class VoteEdgesTest {
  private static final long NO_FRACTION = -1000000000000L;
  private static final int[] FAR = {Integer.MIN_VALUE, -1000, 1000, Integer.MAX_VALUE};
  /** Two layers, cells of 10 without bends and slopes, NEED 2. */
  private static final String FLAT = "s0,0,10,2;r100;r300;";

  public static void main(String[] args) {
    counts();
    layerAsked();
    hitAsked();
    particleAsked();
    lifts();
    cells();
    votesAsked();
    likeCells();
    farthestCells();
    need();
    nearestToTheMiddle();
    twentyTracks();
    ghosts();
    ghostsAsked();
    manyAsked();
    trackAsked();
    ofAsked();
    fits();
    farFits();
    smear();
    pure();
    vertices();
    vertexAsked();
    things();
    found();
    worth();
    bestNeed();
    cross();
    predicted();
    missing();
    nearest();
    offset();
    window();
    Checks.finish("VoteEdgesTest");
  }

  // ---- HITS that COUNT

  private static void counts() {
    Checks.says("A HIT COUNTS, if its LAYER is alive, FROM to TO has its TIME.");
    TrackVotes x = Checks.with("r100;w10,20;h0,0,9;h0,0,10;h0,0,20;h0,0,21;h0,0,15;");
    int[] due = {0, 1, 1, 0, 1};
    for (int h = 0; h < 5; h++) Checks.due("hit(" + h + ", 4)", x.hit(h, 4), due[h]);
    Checks.due("that COUNT", x.is(3), 3);
    Checks.due("layer(0, 2)", x.layer(0, 2), 3);
    x.dead(0);
    for (int h = 0; h < 5; h++) Checks.due("dead: hit(" + h + ", 4)", x.hit(h, 4), 0);
    Checks.due("that COUNT", x.is(3), 0);
    Checks.due("layer(0, 2)", x.layer(0, 2), 0);
    x.dead(0);
    Checks.due("alive again", x.is(3), 3);
    TrackVotes y = Checks.with("r100;h0,0,0;h0,0,999;");
    Checks.due("the first and the last TIME", y.is(3), 2);
    Checks.text(y, "w1,998;");
    Checks.due("neither", y.is(3), 0);
    Checks.text(y, "w0,0;");
    Checks.due("the first", y.hit(0, 4), 1);
    Checks.due("not the last", y.hit(1, 4), 0);
    Checks.text(y, "w999,999;");
    Checks.due("not the first", y.hit(0, 4), 0);
    Checks.due("the last", y.hit(1, 4), 1);
    Checks.says("it never COUNTS");
    Checks.text(y, "w0,999;");
    y.strike(0);
    Checks.due("struck", y.hit(0, 4), 0);
    y.dead(0);
    y.dead(0);
    Checks.due("struck", y.hit(0, 4), 0);
    Checks.due("the other", y.is(3), 1);
  }

  private static void layerAsked() {
    Checks.says("Of a LAYER: 0 X, 1 1 if it is alive, else 0, 2 its HITS that COUNT. NONE for others.");
    TrackVotes none = new TrackVotes();
    for (int what = -1; what < 4; what++) Checks.due("without LAYERS", none.layer(0, what), -1);
    TrackVotes x = Checks.with("r1;r2;r3;r4;r5;r6;r7;r999;h7,0,0;");
    int[] first = {1, 1, 0};
    int[] last = {999, 1, 1};
    for (int what = 0; what < 3; what++) {
      Checks.due("layer(0, " + what + ")", x.layer(0, what), first[what]);
      Checks.due("layer(7, " + what + ")", x.layer(7, what), last[what]);
      Checks.due("layer(-1, " + what + ")", x.layer(-1, what), -1);
      Checks.due("layer(8, " + what + ")", x.layer(8, what), -1);
      for (int l : FAR) Checks.due("layer(" + l + ", " + what + ")", x.layer(l, what), -1);
    }
    Checks.due("layer(0, -1)", x.layer(0, -1), -1);
    Checks.due("layer(0, 3)", x.layer(0, 3), -1);
    for (int what : FAR) Checks.due("layer(0, " + what + ")", x.layer(0, what), -1);
  }

  private static void hitAsked() {
    Checks.says("Of a HIT: 0 LAYER, 1 Y, 2 TIME (-1: struck), 3 the PARTICLE that left it (-2: none), 4 1 if it COUNTS, else 0, 5 its TRACK (-2: none). -100000 for others.");
    TrackVotes none = new TrackVotes();
    for (int what = -1; what < 7; what++) Checks.due("without HITS", none.hit(0, what), -100000);
    TrackVotes x = Checks.with(FLAT + "p5,0,0;h1,-9999,999;" + "h0,50,7;".repeat(57));
    int[] first = {0, 5, 10, 0, 1, 0};
    int[] third = {1, -9999, 999, -2, 1, -2};
    for (int what = 0; what < 6; what++) {
      Checks.due("hit(0, " + what + ")", x.hit(0, what), first[what]);
      Checks.due("hit(2, " + what + ")", x.hit(2, what), third[what]);
      Checks.due("hit(-1, " + what + ")", x.hit(-1, what), -100000);
      Checks.due("hit(60, " + what + ")", x.hit(60, what), -100000);
      for (int h : FAR) Checks.due("hit(" + h + ", " + what + ")", x.hit(h, what), -100000);
    }
    Checks.due("the last", x.hit(59, 1), 50);
    x.strike(0);
    int[] struck = {0, 5, -1, 0, 0, -2};
    for (int what = 0; what < 6; what++) Checks.due("struck: hit(0, " + what + ")", x.hit(0, what), struck[what]);
    Checks.due("hit(0, -1)", x.hit(0, -1), -100000);
    Checks.due("hit(0, 6)", x.hit(0, 6), -100000);
    for (int what : FAR) Checks.due("hit(0, " + what + ")", x.hit(0, what), -100000);
    TrackVotes y = Checks.with("r100;h0,0,0;");
    Checks.due("no second", y.hit(1, 0), -100000);
  }

  private static void particleAsked() {
    Checks.says("Of a PARTICLE: 0 START, 1 SLOPE, 2 BEND, 3 HITS it left that COUNT, 4 FOUND (-2: none). -100000 for others.");
    TrackVotes none = new TrackVotes();
    for (int what = -1; what < 6; what++) Checks.due("without PARTICLES", none.particle(0, what), -100000);
    TrackVotes x = Checks.with(FLAT + "p-9999,-50,-5;" + "p0,0,0;".repeat(10) + "p9998,50,5;");
    int[] first = {-9999, -50, -5, 0, -2};
    int[] last = {9998, 50, 5, 0, -2};
    for (int what = 0; what < 5; what++) {
      Checks.due("particle(0, " + what + ")", x.particle(0, what), first[what]);
      Checks.due("particle(11, " + what + ")", x.particle(11, what), last[what]);
      Checks.due("particle(-1, " + what + ")", x.particle(-1, what), -100000);
      Checks.due("particle(12, " + what + ")", x.particle(12, what), -100000);
      for (int p : FAR) Checks.due("particle(" + p + ", " + what + ")", x.particle(p, what), -100000);
    }
    Checks.due("HITS", x.particle(1, 3), 2);
    x.dead(0);
    Checks.due("that COUNT", x.particle(1, 3), 1);
    Checks.text(x, "w31,40;");
    Checks.due("none that COUNT", x.particle(1, 3), 0);
    Checks.text(x, "w30,30;");
    Checks.due("at its TIME", x.particle(1, 3), 1);
    x.strike(1);
    Checks.due("struck", x.particle(1, 3), 0);
    Checks.due("particle(0, -1)", x.particle(0, -1), -100000);
    Checks.due("particle(0, 5)", x.particle(0, 5), -100000);
    for (int what : FAR) Checks.due("particle(0, " + what + ")", x.particle(0, what), -100000);
    Checks.due("no second", Checks.with("p0,0,0;").particle(1, 0), -100000);
  }

  // ---- CELLS

  private static void lifts() {
    Checks.says("What a CURVE of slope t, bend k (-99 to 99 each) is lifted at LAYER l. -100000 for others.");
    TrackVotes x = Checks.with("r1;r999;");
    Checks.due("lift(0, 99, 99)", x.lift(0, 99, 99), 0);
    Checks.due("lift(0, -99, -99)", x.lift(0, -99, -99), -2);
    Checks.due("lift(1, 99, 99)", x.lift(1, 99, 99), 989 + 9880);
    Checks.due("lift(1, -99, -99)", x.lift(1, -99, -99), -990 - 9881);
    Checks.due("lift(1, 99, -99)", x.lift(1, 99, -99), 989 - 9881);
    Checks.due("lift(1, 0, 0)", x.lift(1, 0, 0), 0);
    for (int l = 0; l < 2; l++) {
      for (int n : new int[] {-100, 100}) {
        Checks.due("lift(" + l + ", " + n + ", 0)", x.lift(l, n, 0), -100000);
        Checks.due("lift(" + l + ", 0, " + n + ")", x.lift(l, 0, n), -100000);
      }
    }
    for (int n : FAR) {
      Checks.due("lift(0, " + n + ", 0)", x.lift(0, n, 0), -100000);
      Checks.due("lift(0, 0, " + n + ")", x.lift(0, 0, n), -100000);
      Checks.due("lift(" + n + ", 0, 0)", x.lift(n, 0, 0), -100000);
    }
    Checks.due("lift(-1, 0, 0)", x.lift(-1, 0, 0), -100000);
    Checks.due("lift(2, 0, 0)", x.lift(2, 0, 0), -100000);
    Checks.due("without LAYERS", new TrackVotes().lift(0, 0, 0), -100000);
    x.dead(1);
    Checks.due("at a dead LAYER", x.lift(1, 99, 0), 989);
    Checks.says("t times X by 100 and k times X times X by 10000 (both floored)");
    TrackVotes y = Checks.with("r99;r100;r101;");
    int[] slope = {0, 1, 1};
    int[] less = {-1, -1, -2};
    for (int l = 0; l < 3; l++) {
      Checks.due("slope 1", y.lift(l, 1, 0), slope[l]);
      Checks.due("slope -1", y.lift(l, -1, 0), less[l]);
      Checks.due("bend 1", y.lift(l, 0, 1), slope[l]);
      Checks.due("bend -1", y.lift(l, 0, -1), less[l]);
      // 0.99 and 0.98 (and the like) are each floored, not their sum.
      Checks.due("both", y.lift(l, 1, 1), 2 * slope[l]);
      Checks.due("both below 0", y.lift(l, -1, -1), 2 * less[l]);
    }
  }

  private static void cells() {
    Checks.says("b the floor, by WIDTH, of its Y less what t and k lift a CURVE there");
    int[] heights = {-21, -20, -11, -10, -1, 0, 9, 10, 19, 20};
    int[] due = {-3, -2, -2, -1, -1, 0, 0, 1, 1, 2};
    for (int i = 0; i < heights.length; i++) {
      TrackVotes x = Checks.with("s0,0,10,2;r100;h0," + heights[i] + ",0;");
      for (int b = -4; b <= 3; b++) Checks.due("Y " + heights[i] + ", b " + b, x.votes(0, 0, b), b == due[i] ? 1 : 0);
    }
    TrackVotes y = Checks.with("s0,0,1,2;r100;h0,-9999,0;h0,9999,0;");
    Checks.due("WIDTH 1, the least", y.votes(0, 0, -9999), 1);
    Checks.due("WIDTH 1, the greatest", y.votes(0, 0, 9999), 1);
    Checks.due("beyond", y.votes(0, 0, 10000), 0);
    TrackVotes z = Checks.with("s0,0,500,2;r100;h0,-9999,0;h0,9999,0;");
    Checks.due("WIDTH 500, the least", z.votes(0, 0, -20), 1);
    Checks.due("WIDTH 500, the greatest", z.votes(0, 0, 19), 1);
    // Slope 20 and bend 3 at 999: 199 and 299; slope -20 and bend -3: -200 and -300.
    TrackVotes w = Checks.with("s3,20,1,2;r999;h0,0,0;");
    Checks.due("the greatest lift", w.votes(3, 20, -498), 1);
    Checks.due("the least lift", w.votes(-3, -20, 500), 1);
    Checks.due("each floored", w.votes(3, -20, -99), 1);
    Checks.due("each floored", w.votes(-3, 20, 101), 1);
    Checks.says("VOTES of a CELL: on how many LAYERS HITS vote for it.");
    TrackVotes v = Checks.with("s0,0,10,2;r1;r2;r3;r4;r5;r6;r7;r8;");
    for (int l = 0; l < 8; l++) {
      Checks.due("LAYERS", v.votes(0, 0, 0), l);
      v.add(l, 0, 0);
      v.add(l, 9, 0);
      v.add(l, 0, 0);
    }
    Checks.due("all 8", v.votes(0, 0, 0), 8);
    Checks.due("TRACKS", v.many(0), 3);
    Checks.due("still all 8", v.votes(0, 0, 0), 8);
  }

  private static void votesAsked() {
    Checks.says("VOTES of the CELL k, t, b by all HITS that COUNT (k, t within BENDS, SLOPES). NONE for others.");
    int[][] most = {{0, 0}, {1, 10}, {3, 20}};
    for (int[] m : most) {
      TrackVotes x = Checks.with("s" + m[0] + "," + m[1] + ",500,2;r1;h0,250,0;");
      for (int k : new int[] {-m[0], m[0]}) {
        for (int t : new int[] {-m[1], m[1]}) Checks.due("votes(" + k + ", " + t + ", 0)", x.votes(k, t, 0), 1);
      }
      Checks.due("no VOTES", x.votes(0, 0, 1), 0);
      for (int k : new int[] {-m[0] - 1, m[0] + 1}) Checks.due("votes(" + k + ", 0, 0)", x.votes(k, 0, 0), -1);
      for (int t : new int[] {-m[1] - 1, m[1] + 1}) Checks.due("votes(0, " + t + ", 0)", x.votes(0, t, 0), -1);
      for (int n : FAR) {
        Checks.due("votes(" + n + ", 0, 0)", x.votes(n, 0, 0), -1);
        Checks.due("votes(0, " + n + ", 0)", x.votes(0, n, 0), -1);
        Checks.due("any b", x.votes(0, 0, n), 0);
      }
      x.strike(0);
      Checks.due("that COUNT", x.votes(0, 0, 0), 0);
    }
    Checks.due("without LAYERS", new TrackVotes().votes(1, 10, 0), 0);
  }

  // ---- TRACKS

  /** With 0 on the first layer: bend k, slope t join 8 k and 2 t on the second. */
  private static String joined(int... heights) {
    StringBuilder text = new StringBuilder("s1,1,1,2;r100;r300;r400;h0,0,0;");
    for (int y : heights) text.append("h1,").append(y).append(",0;");
    return text.toString();
  }

  /** Alone, and with a HIT on a third layer that is in none of these cells. */
  private static void cellOf(String text, int k, int t, int hit) {
    for (String far : new String[] {"", "h2,9999,0;"}) {
      TrackVotes x = Checks.with(text + far);
      Checks.due("TRACKS", x.many(0), 1);
      Checks.due("bend", x.track(0, 0), k);
      Checks.due("slope", x.track(0, 1), t);
      Checks.due("its HIT", x.of(0, 1), hit);
    }
  }

  private static void farthestCells() {
    Checks.says("CELLS: bend k (-BENDS to BENDS), slope t (-SLOPES to SLOPES), b");
    for (int k : new int[] {-3, 3}) {
      for (int t : new int[] {-20, 20}) {
        // In cells of 1 no other bend or slope has all four.
        TrackVotes x = Checks.with("s3,20,1,4;r100;r200;r300;r400;p7," + t + "," + k + ";");
        Checks.due("TRACKS", x.many(0), 1);
        Checks.due("bend", x.track(0, 0), k);
        Checks.due("slope", x.track(0, 1), t);
        Checks.due("b", x.track(0, 2), 7);
        Checks.due("no GHOST", x.many(1), 0);
        fit(x, 0, 7, 1, t / 20, 5, 0, 1);
        Checks.text(x, "s3,19,1,4;");
        Checks.due("beyond SLOPES", x.many(0), 0);
        Checks.text(x, "s2,20,1,4;");
        Checks.due("beyond BENDS", x.many(0), 0);
      }
    }
    TrackVotes y = Checks.with("s3,20,500,2;r1;r2;r3;r4;r5;r6;r7;r8;p250,0,0;");
    Checks.due("7 times 41 less the TRACK's", y.many(1), 286);
    Checks.due("VOTES", y.ghost(19, 3), 8);
    Checks.due("WORK", y.work(), 8 * 287 + 10);
    Checks.text(y, "s0,0,500,2;");
    Checks.due("one CELL alone", y.many(1), 0);
    Checks.due("no GHOST any more", y.ghost(0, 0), -100000);
    Checks.says("a HIT votes for the CELL k, t, b");
    // Cells that are far apart are not one.
    for (int far : new int[] {1, 64, 127, 128, 129, 256, 512, 1024, 4096, 8192}) {
      TrackVotes z = Checks.with("s0,0,1,2;r100;r300;h0,0,0;h1," + far + ",0;");
      Checks.due("0 and " + far, z.many(0), 0);
      TrackVotes w = Checks.with("s0,0,1,2;r100;r300;h0,0,0;h0," + far + ",0;h0," + -far + ",0;h1," + -far + ",0;h1," + far + ",0;");
      Checks.due("those that are", w.many(0), 2);
      Checks.due("the lesser", w.track(0, 2), -far);
      Checks.due("the greater", w.track(1, 2), far);
      TrackVotes v = Checks.with("s0,0,1,2;r100;r300;h0,0,0;h0," + far + ",0;h0," + -far + ",0;h1,0,0;h1," + far + ",0;h1," + -far + ",0;");
      for (int i = 0; i < 3; i++) Checks.due("all three", v.track(i, 2), (i - 1) * far);
    }
  }

  private static void likeCells() {
    Checks.says("of like ones that with the least |k|, then |t|, then the lesser k, t, b");
    cellOf(joined(2, 8), 0, 1, 1);
    cellOf(joined(8, 2), 0, 1, 2);
    cellOf(joined(8, -6), 1, 0, 1);
    cellOf(joined(-6, 8), 1, 0, 2);
    cellOf(joined(6, -6), -1, 1, 2);
    cellOf(joined(-6, 6), -1, 1, 1);
    cellOf(joined(8, -8), -1, 0, 2);
    cellOf(joined(2, -2), 0, -1, 2);
    cellOf(joined(6, 10), 1, -1, 1);
    cellOf(joined(-2, 0, 2), 0, 0, 2);
    TrackVotes x = Checks.with(FLAT + "h0,25,0;h1,25,0;h0,-15,0;h1,-15,0;h0,5,0;h1,5,0;");
    int[] b = {-2, 0, 2};
    for (int i = 0; i < 3; i++) Checks.due("the lesser b", x.track(i, 2), b[i]);
    Checks.says("the CELL with most VOTES (NEED at least)");
    // Bend 1, slope 1 joins three: 0, 2 + 8, 2 more on the last by 11 + 1.
    TrackVotes y = Checks.with("s1,1,1,2;r100;r300;r400;h0,0,0;h1,0,0;h1,10,0;h2,18,0;");
    Checks.due("VOTES", y.track(0, 3), 3);
    Checks.due("bend", y.track(0, 0), 1);
    Checks.due("slope", y.track(0, 1), 1);
    Checks.due("b", y.track(0, 2), -2);
  }

  private static void need() {
    Checks.says("the CELL with most VOTES (NEED at least)");
    TrackVotes x = Checks.with("s0,0,10,2;r1;r2;r3;r4;r5;r6;r7;r8;");
    for (int l = 0; l < 8; l++) {
      x.add(l, 5, 0);
      for (int n = 2; n <= 8; n++) {
        x.need(n);
        Checks.due("NEED " + n + " of " + (l + 1), x.many(0), l + 1 >= n ? 1 : 0);
        Checks.due("most VOTES", x.many(4), l + 1 >= n ? l + 1 : 0);
      }
    }
    Checks.says("VOTES of a CELL: on how many LAYERS HITS vote for it.");
    for (int l = 0; l < 2; l++) {
      TrackVotes y = Checks.with(FLAT + "h" + l + ",5,0;h" + l + ",5,0;h" + l + ",6,0;");
      Checks.due("three HITS on one LAYER", y.many(0), 0);
      Checks.due("no GHOST", y.many(1), 0);
    }
    TrackVotes z = Checks.with(FLAT + "r400;h1,55,0;h1,55,0;h1,55,0;h0,5,0;h2,5,0;");
    Checks.due("two LAYERS, not three HITS", z.track(0, 2), 0);
    Checks.due("no other", z.many(0), 1);
    Checks.says("5 its TRACK (-2: none)");
    Checks.due("its TRACK", z.hit(3, 5), 0);
    z.need(3);
    Checks.due("by a greater NEED", z.hit(3, 5), -2);
    Checks.due("HITS of no TRACK", z.many(3), 5);
    // One TRACK by NEED 3; by NEED 2 three more.
    TrackVotes w = Checks.with(FLAT + "r400;h0,5,0;h1,5,0;h2,5,0;h0,15,0;h1,15,0;h0,25,0;h1,25,0;h0,35,0;h1,35,0;");
    Checks.due("by NEED 2", w.many(0), 4);
    for (int h = 3; h < 9; h++) Checks.due("hit(" + h + ", 5)", w.hit(h, 5), (h - 1) / 2);
    w.need(3);
    Checks.due("by NEED 3", w.many(0), 1);
    for (int h = 3; h < 9; h++) Checks.due("hit(" + h + ", 5)", w.hit(h, 5), -2);
    for (int i = 1; i < 4; i++) {
      Checks.due("no TRACK " + i, w.track(i, 0), -100000);
      Checks.due("no TRACK " + i, w.of(i, 0), -1);
      Checks.due("no TRACK " + i, w.fit(i, 1), NO_FRACTION);
      Checks.due("no TRACK " + i, w.cross(0, i, 0), NO_FRACTION);
      Checks.due("no TRACK " + i, w.predicted(i, 0), -100000);
      Checks.due("no TRACK " + i, w.missing(i), -1);
      Checks.due("no TRACK " + i, w.nearest(i, 0), -1);
    }
    Checks.says("the CELL with most VOTES (NEED at least)");
    Checks.due("nothing", new TrackVotes().many(0), 0);
  }

  private static void nearestToTheMiddle() {
    Checks.says("nearest to b times WIDTH and half of WIDTH (cut)");
    middle(10, 0, 5);
    middle(10, -10, -5);
    middle(5, 0, 2);
    middle(5, -5, -3);
    middle(3, 0, 1);
    middle(3, -3, -2);
    middle(4, 0, 2);
    middle(500, 0, 250);
    middle(499, -499, -250);
    Checks.says("is the TRACK's (of like ones the first)");
    TrackVotes x = Checks.with(FLAT + "h1,5,0;h0,3,0;h0,7,0;h0,3,0;");
    Checks.due("3 ahead of 7", x.of(0, 0), 1);
    TrackVotes y = Checks.with(FLAT + "h1,5,0;h0,7,0;h0,3,0;h0,7,0;");
    Checks.due("7 ahead of 3", y.of(0, 0), 1);
    TrackVotes z = Checks.with(FLAT + "h1,5,0;h0,0,0;h0,9,0;");
    Checks.due("9 is 4 away, 0 is 5", z.of(0, 0), 2);
    TrackVotes w = Checks.with("s0,0,1,2;r100;r300;h0,7,0;h0,7,0;h1,7,0;h1,7,0;");
    Checks.due("the first", w.of(0, 0), 0);
    Checks.due("the first", w.of(0, 1), 2);
    Checks.says("these HITS count no more; again so, till there is none");
    Checks.due("the next TRACK", w.of(1, 0), 1);
    Checks.due("the next TRACK", w.of(1, 1), 3);
    Checks.due("then none", w.many(0), 2);
    Checks.due("less that lift", Checks.with("s0,1,10,2;r100;r300;r400;h0,9,0;h1,11,0;h2,12,0;h2,9,0;h2,13,0;").track(0, 3), 3);
  }

  /** On one layer the middle comes between its neighbours, of which one is ahead of it. */
  private static void middle(int width, int low, int middle) {
    for (int first : new int[] {middle - 1, middle + 1}) {
      TrackVotes x = Checks.with("s0,0," + width + ",2;r100;r300;h1," + low + ",0;h0," + first + ",0;h0," + middle + ",0;");
      Checks.due("WIDTH " + width + ", " + middle + " behind " + first, x.of(0, 0), 2);
      TrackVotes y = Checks.with("s0,0," + width + ",2;r100;r300;h1," + low + ",0;h0," + middle + ",0;h0," + first + ",0;");
      Checks.due("WIDTH " + width + ", " + middle + " ahead of " + first, y.of(0, 0), 1);
    }
  }

  private static void twentyTracks() {
    Checks.says("till there is none (20 at most)");
    for (int count = 19; count <= 21; count++) {
      TrackVotes x = Checks.with("s0,0,1,2;r100;r300;");
      for (int i = 0; i < count; i++) {
        x.add(0, i, 0);
        x.add(1, i, 0);
      }
      int tracks = Math.min(count, 20);
      Checks.due("TRACKS of " + count, x.many(0), tracks);
      Checks.due("the last", x.track(tracks - 1, 2), tracks - 1);
      Checks.due("none behind", x.track(tracks, 2), -100000);
      Checks.due("HITS of no TRACK", x.many(3), 2 * (count - tracks));
      Checks.due("GHOSTS", x.many(1), count - tracks);
      Checks.due("its TRACK", x.hit(2 * count - 1, 5), count > 20 ? -2 : count - 1);
      Checks.due("most VOTES", x.many(4), 2);
      Checks.due("WORK", x.work(), 2 * count + 10 * tracks);
      Checks.due("of none FOUND, the least NEED that has none", x.bestNeed(0), 3);
      Checks.due("worth(0)", x.worth(0), tracks);
    }
  }

  private static void ghosts() {
    Checks.says("GHOSTS: CELLS (by all HITS that COUNT) with NEED VOTES or more that are none of the TRACKS' CELLS.");
    TrackVotes x = Checks.with("s0,1,10,2;r100;r200;h0,5,0;h1,5,0;");
    Checks.due("both other slopes", x.many(1), 2);
    x.need(3);
    Checks.due("not with NEED less 1", x.many(1), 0);
    // Three on slope 0 (5, 5, 5), slope -1 (6, 7, 8) and slope 1 (4, 3, 2): all in b 0.
    TrackVotes y = Checks.with("s0,1,10,3;r100;r200;r300;h0,5,0;h1,5,0;h2,5,0;");
    Checks.due("NEED VOTES", y.many(1), 2);
    Checks.due("none left to vote, but by all HITS", y.ghost(0, 3), 3);
    y.need(4);
    Checks.due("NEED less 1", y.many(1), 0);
    y.need(2);
    Checks.due("more than NEED", y.many(1), 2);
    // The same CELL twice is a TRACK's CELL twice, and no GHOST.
    TrackVotes z = Checks.with(FLAT + "h0,5,0;h0,5,0;h1,5,0;h1,5,0;");
    Checks.due("two TRACKS of one CELL", z.many(0), 2);
    Checks.due("no GHOST", z.many(1), 0);
    x.need(2);
    x.strike(0);
    Checks.due("by HITS that COUNT", x.many(1), 0);
    Checks.due("nothing", new TrackVotes().many(1), 0);
  }

  private static void ghostsAsked() {
    Checks.says("Of the GHOST in place i (0 to 19): 0 bend, 1 slope, 2 b, 3 VOTES. -100000 for others, there are not so many.");
    // 21 cells with two votes each, and no track with NEED 2 but the first 20: one ghost.
    TrackVotes x = Checks.with("s0,0,1,2;r100;r300;");
    for (int i = 0; i < 21; i++) {
      x.add(0, i, 0);
      x.add(1, i, 0);
    }
    int[] due = {0, 0, 20, 2};
    for (int what = 0; what < 4; what++) {
      Checks.due("ghost(0, " + what + ")", x.ghost(0, what), due[what]);
      Checks.due("ghost(1, " + what + ")", x.ghost(1, what), -100000);
      Checks.due("ghost(-1, " + what + ")", x.ghost(-1, what), -100000);
      for (int i : FAR) Checks.due("ghost(" + i + ", " + what + ")", x.ghost(i, what), -100000);
    }
    Checks.due("ghost(0, -1)", x.ghost(0, -1), -100000);
    Checks.due("ghost(0, 4)", x.ghost(0, 4), -100000);
    for (int what : FAR) Checks.due("ghost(0, " + what + ")", x.ghost(0, what), -100000);
    Checks.due("without any", new TrackVotes().ghost(0, 0), -100000);
    Checks.says("the first 20");
    // Of slopes -10 to 10 all join 250 and 250 in cells of 500: one track, 20 ghosts.
    TrackVotes y = Checks.with("s0,10,500,2;r1;r2;h0,250,0;h1,250,0;");
    Checks.due("GHOSTS", y.many(1), 20);
    Checks.due("ghost(19, 1)", y.ghost(19, 1), 10);
    Checks.due("ghost(20, 1)", y.ghost(20, 1), -100000);
    TrackVotes z = Checks.with("s0,11,500,2;r1;r2;h0,250,0;h1,250,0;");
    Checks.due("GHOSTS", z.many(1), 22);
    Checks.due("ghost(19, 1)", z.ghost(19, 1), 10);
    Checks.due("ghost(20, 1)", z.ghost(20, 1), -100000);
    Checks.due("ghost(21, 1)", z.ghost(21, 1), -100000);
    Checks.says("GHOSTS in the order of CELLS (as TRACKS are taken: most VOTES first, and so on)");
    for (int i = 0; i < 20; i++) Checks.due("ghost(" + i + ", 1)", z.ghost(i, 1), i % 2 == 0 ? -1 - i / 2 : 1 + i / 2);
    // The track is of k 0, t 0; then |k| 0: t -1, 1; then |k| 1, |t| 0: k -1, 1; then |t| 1: k -1 with t -1, 1, k 1 with t -1, 1.
    TrackVotes w = Checks.with("s1,1,500,2;r1;r2;h0,250,0;h1,250,0;h0,750,0;h1,750,0;");
    int[] k = {0, 0, 0, 0, -1, -1, 1, 1, -1, -1, -1, -1, 1, 1, 1, 1};
    int[] t = {-1, -1, 1, 1, 0, 0, 0, 0, -1, -1, 1, 1, -1, -1, 1, 1};
    Checks.due("GHOSTS", w.many(1), 16);
    for (int i = 0; i < 16; i++) {
      Checks.due("ghost(" + i + ", 0)", w.ghost(i, 0), k[i]);
      Checks.due("ghost(" + i + ", 1)", w.ghost(i, 1), t[i]);
      Checks.due("the lesser b", w.ghost(i, 2), i % 2);
      Checks.due("VOTES", w.ghost(i, 3), 2);
    }
    TrackVotes told = Checks.with("s1,1,500,2;r1;r2;h0,750,0;h1,750,0;h0,-250,0;h1,-250,0;h0,250,0;h1,250,0;");
    for (int i = 0; i < 12; i++) Checks.due("the lesser b, told later", told.ghost(i, 2), i % 3 - 1);
    Checks.says("the first 20");
    // 7 slopes join three, 35 more two: 6 and 35 ghosts.
    TrackVotes u = Checks.with("s0,3,500,2;r1;r2;r3;h0,250,0;h1,250,0;h2,250,0;h0,750,0;h1,750,0;h1,1750,0;h0,1750,0;h1,1250,0;h0,1250,0;h0,-250,0;h1,-250,0;h0,2250,0;h1,2250,0;");
    Checks.due("TRACKS", u.many(0), 6);
    Checks.due("GHOSTS", u.many(1), 36);
    int[] bs = {-1, 1, 2, 3, 4};
    for (int i = 0; i < 6; i++) {
      Checks.due("three VOTES", u.ghost(i, 3), 3);
      Checks.due("their b", u.ghost(i, 2), 0);
      Checks.due("their slope", u.ghost(i, 1), i % 2 == 0 ? -1 - i / 2 : 1 + i / 2);
    }
    for (int i = 6; i < 20; i++) {
      int slope = (i - 6) / 5;
      Checks.due("two VOTES", u.ghost(i, 3), 2);
      Checks.due("the lesser b", u.ghost(i, 2), bs[(i - 6) % 5]);
      Checks.due("their slope", u.ghost(i, 1), slope % 2 == 0 ? -1 - slope / 2 : 1 + slope / 2);
    }
    for (int i = 20; i < 36; i += 15) for (int what = 0; what < 4; what++) Checks.due("ghost(" + i + ", " + what + ")", u.ghost(i, what), -100000);
    Checks.says("GHOSTS in the order of CELLS (as TRACKS are taken: most VOTES first, and so on)");
    // Of slope 2 all three vote for one cell, of slopes 0 and 1 two.
    TrackVotes v = Checks.with("s0,2,6,2;r100;r200;r300;h0,0,0;h1,0,0;h2,5,0;");
    Checks.due("the TRACK's VOTES", v.track(0, 3), 3);
    int ahead = 8;
    for (int i = 0; i < v.many(1); i++) {
      Checks.due("most VOTES first", v.ghost(i, 3) <= ahead, true);
      Checks.due("its VOTES", v.votes(v.ghost(i, 0), v.ghost(i, 1), v.ghost(i, 2)), v.ghost(i, 3));
      ahead = v.ghost(i, 3);
    }
  }

  private static void manyAsked() {
    Checks.says("HITS that COUNT of no TRACK (3), most VOTES of a TRACK (4; 0 without), TRACKS in the greatest VERTEX (5). NONE for others.");
    TrackVotes none = new TrackVotes();
    for (int what = 0; what < 6; what++) Checks.due("nothing: many(" + what + ")", none.many(what), 0);
    TrackVotes x = Checks.with(FLAT + "h0,5,0;h1,5,0;h0,55,0;h1,55,999;");
    int[] due = {2, 0, 2, 0, 2, 1};
    for (int what = 0; what < 6; what++) Checks.due("many(" + what + ")", x.many(what), due[what]);
    Checks.text(x, "w0,998;");
    int[] later = {1, 0, 1, 1, 2, 1};
    for (int what = 0; what < 6; what++) Checks.due("many(" + what + ")", x.many(what), later[what]);
    Checks.text(x, "w0,999;g50;");
    Checks.due("in one VERTEX", x.many(5), 2);
    Checks.due("many(-1)", x.many(-1), -1);
    Checks.due("many(6)", x.many(6), -1);
    for (int what : FAR) Checks.due("many(" + what + ")", x.many(what), -1);
  }

  private static void trackAsked() {
    Checks.says("Of a TRACK: 0 bend, 1 slope, 2 b, 3 HITS, 4 VERTEX, 5 A floored, 6 SMEAR, 7 PURE, 8 the PARTICLE that left most (the first such; -2: none did). -100000 for others.");
    TrackVotes none = new TrackVotes();
    for (int what = -1; what < 10; what++) Checks.due("nothing", none.track(0, what), -100000);
    TrackVotes x = Checks.with(FLAT + "h0,5,0;h1,5,0;h0,55,0;h1,55,0;");
    int[] first = {0, 0, 0, 2, 0, 5, 0, 0, -2};
    int[] second = {0, 0, 5, 2, 1, 55, 0, 0, -2};
    for (int what = 0; what < 9; what++) {
      Checks.due("track(0, " + what + ")", x.track(0, what), first[what]);
      Checks.due("track(1, " + what + ")", x.track(1, what), second[what]);
      Checks.due("track(2, " + what + ")", x.track(2, what), -100000);
      Checks.due("track(-1, " + what + ")", x.track(-1, what), -100000);
      for (int i : FAR) Checks.due("track(" + i + ", " + what + ")", x.track(i, what), -100000);
    }
    Checks.due("track(0, -1)", x.track(0, -1), -100000);
    Checks.due("track(0, 9)", x.track(0, 9), -100000);
    for (int what : FAR) Checks.due("track(0, " + what + ")", x.track(0, what), -100000);
  }

  private static void ofAsked() {
    Checks.says("The HIT of a TRACK on a LAYER. -2: none; NONE for others.");
    TrackVotes x = Checks.with("s0,0,10,2;r100;r200;r300;h2,5,0;h0,5,0;");
    int[] due = {1, -2, 0};
    for (int l = 0; l < 3; l++) Checks.due("of(0, " + l + ")", x.of(0, l), due[l]);
    Checks.due("of(0, 3)", x.of(0, 3), -1);
    Checks.due("of(0, -1)", x.of(0, -1), -1);
    Checks.due("of(1, 0)", x.of(1, 0), -1);
    Checks.due("of(-1, 0)", x.of(-1, 0), -1);
    for (int n : FAR) {
      Checks.due("of(0, " + n + ")", x.of(0, n), -1);
      Checks.due("of(" + n + ", 0)", x.of(n, 0), -1);
    }
    x.dead(1);
    Checks.due("of(0, 1), a dead one", x.of(0, 1), -2);
    Checks.due("nothing", new TrackVotes().of(0, 0), -1);
  }

  // ---- FIT

  private static void fit(TrackVotes x, int i, long... due) {
    for (int what = 0; what < 6; what++) Checks.due("fit(" + i + ", " + what + ")", x.fit(i, what), due[what]);
  }

  private static void fits() {
    Checks.says("START A (what 0, 1: the upper, the lower number), SLOPE B (2, 3), OFF (4, 5). -1000000000000 for others.");
    TrackVotes none = new TrackVotes();
    for (int what = -1; what < 7; what++) Checks.due("nothing", none.fit(0, what), NO_FRACTION);
    TrackVotes x = Checks.with(FLAT + "h0,0,0;h1,0,0;");
    fit(x, 0, 0, 1, 0, 1, 0, 1);
    for (int what = 0; what < 6; what++) {
      Checks.due("fit(1, " + what + ")", x.fit(1, what), NO_FRACTION);
      Checks.due("fit(-1, " + what + ")", x.fit(-1, what), NO_FRACTION);
      for (int i : FAR) Checks.due("fit(" + i + ", " + what + ")", x.fit(i, what), NO_FRACTION);
    }
    Checks.due("fit(0, -1)", x.fit(0, -1), NO_FRACTION);
    Checks.due("fit(0, 6)", x.fit(0, 6), NO_FRACTION);
    for (int what : FAR) Checks.due("fit(0, " + what + ")", x.fit(0, what), NO_FRACTION);
    Checks.says("in exact fractions, lowest terms");
    // Two HITS: B is what they differ by 200, A is what is left at 0, nothing is off.
    fit(Checks.with(FLAT + "h0,0,0;h1,1,0;"), 0, -1, 2, 1, 200, 0, 1);
    fit(Checks.with(FLAT + "h0,1,0;h1,0,0;"), 0, 3, 2, -1, 200, 0, 1);
    fit(Checks.with(FLAT + "h0,2,0;h1,6,0;"), 0, 0, 1, 1, 50, 0, 1);
    fit(Checks.with(FLAT + "h0,-2,0;h1,-6,0;"), 0, 0, 1, -1, 50, 0, 1);
    // 0, 1, 1 at 1, 2, 3: B 1/2, A -1/3, off -1/6, 1/3, -1/6.
    fit(Checks.with("s0,0,10,3;r1;r2;r3;h0,0,0;h1,1,0;h2,1,0;"), 0, -1, 3, 1, 2, 1, 6);
    // 0, 0, 1 at 1, 2, 4: means 7/3 and 1/3; B (5/3) / (14/3) = 5/14, A 1/3 - 5/6 = -1/2.
    // Off 1/7, -3/14, 1/14: 4/196 + 9/196 + 1/196 = 1/14.
    fit(Checks.with("s0,0,10,3;r1;r2;r4;h0,0,0;h1,0,0;h2,1,0;"), 0, -1, 2, 5, 14, 1, 14);
    Checks.says("Y less what its bend lifts (floored, as above) over X");
    // Bend -1 at 150, 250, 350 lifts -3 (2.25 floored), -7 (6.25), -13 (12.25).
    TrackVotes y = Checks.with("s1,0,1,3;r150;r250;r350;h0,-3,0;h1,-7,0;h2,-13,0;");
    Checks.due("its bend", y.track(0, 0), -1);
    fit(y, 0, 0, 1, 0, 1, 0, 1);
    Checks.says("5 A floored");
    Checks.due("-1/2", Checks.with(FLAT + "h0,0,0;h1,1,0;").track(0, 5), -1);
    Checks.due("3/2", Checks.with(FLAT + "h0,1,0;h1,0,0;").track(0, 5), 1);
    Checks.due("0", Checks.with(FLAT + "h0,2,0;h1,6,0;").track(0, 5), 0);
  }

  private static void farFits() {
    Checks.says("the line of least squares: START A, SLOPE B (for each X) in exact fractions, lowest terms");
    TrackVotes x = Checks.with("s0,0,500,2;r1;r998;r999;h1,0,0;h2,499,0;");
    fit(x, 0, -499 * 998, 1, 499, 1, 0, 1);
    Checks.due("A floored", x.track(0, 5), -499 * 998);
    Checks.due("PREDICTED at 1", x.predicted(0, 0), -499 * 997);
    Checks.due("PLACE", x.vertex(0, 1), -499 * 998);
    TrackVotes y = Checks.with("s0,0,500,2;r998;r999;h0,9999,0;h1,9500,0;h0,-9501,0;h1,-9999,0;");
    fit(y, 0, -9501 + 498 * 998, 1, -498, 1, 0, 1);
    fit(y, 1, 9999 + 499 * 998, 1, -499, 1, 0, 1);
    Checks.due("CROSS", y.cross(0, 1, 0), 9999 + 499 * 998 + 9501 - 498 * 998);
    // 0 and 499 in turn at 992 to 999.
    TrackVotes z = Checks.with("s0,0,500,8;r992;r993;r994;r995;r996;r997;r998;r999;"
        + "h0,0,0;h1,499,0;h2,0,0;h3,499,0;h4,0,0;h5,499,0;h6,0,0;h7,499,0;");
    // Sums about the means: xx 42, xy 998, yy 498002; B 499/21, A 499/2 - 499/21 times 1991/2.
    fit(z, 0, -499 * 985, 21, 499, 21, 498002 * 21 - 499 * 998, 21);
  }

  private static void smear() {
    Checks.says("SMEAR of a TRACK: the greatest |Y less its FIT's line and bend| (floored).");
    // 0, n, 0 at 1, 2, 3: the line is at n/3, off by n/3, 2n/3, n/3.
    int[] due = {0, 0, 1, 2, 2, 3};
    for (int n = 0; n < 6; n++) {
      TrackVotes x = Checks.with("s0,0,10,3;r1;r2;r3;h0,0,0;h1," + n + ",0;h2,0,0;");
      Checks.due("SMEAR of " + n, x.track(0, 6), due[n]);
      TrackVotes y = Checks.with("s0,0,10,3;r1;r2;r3;h0,-5,0;h1," + (-5 - n) + ",0;h2,-5,0;");
      Checks.due("SMEAR of " + -n, y.track(0, 6), due[n]);
    }
    Checks.due("of two HITS", Checks.with(FLAT + "h0,0,0;h1,9,0;").track(0, 6), 0);
    Checks.due("LAYERS without a HIT aside", Checks.with(FLAT + "r400;h0,505,0;h1,505,0;").track(0, 6), 0);
    // 9 and seven times 0 at 1 to 8: the line is at 15/4, falling by 3/4: the first is off by 21/4.
    String eight = "s0,0,10,8;r1;r2;r3;r4;r5;r6;r7;r8;";
    Checks.due("the first is most", Checks.with(eight + "h0,9,0;h1,0,0;h2,0,0;h3,0,0;h4,0,0;h5,0,0;h6,0,0;h7,0,0;").track(0, 6), 5);
    Checks.due("the last is most", Checks.with(eight + "h0,0,0;h1,0,0;h2,0,0;h3,0,0;h4,0,0;h5,0,0;h6,0,0;h7,9,0;").track(0, 6), 5);
    TrackVotes z = Checks.with("s1,0,1,3;r150;r250;r350;h0,-3,0;h1,-7,0;h2,-13,0;");
    Checks.due("less the bend", z.track(0, 6), 0);
  }

  private static void pure() {
    Checks.says("PURE: of a TRACK's HITS the most that one PARTICLE left.");
    TrackVotes x = Checks.with(FLAT + "h0,5,0;h1,5,0;");
    Checks.due("none left one", x.track(0, 7), 0);
    Checks.says("8 the PARTICLE that left most (the first such; -2: none did)");
    Checks.due("none did", x.track(0, 8), -2);
    // On the first layer the first particle's hit, on the second the second one's.
    TrackVotes y = Checks.with("s0,0,10,2;r100;p55,0,0;p5,0,0;r200;h1,5,0;p5,0,0;");
    Checks.due("one each", y.track(0, 7), 1);
    Checks.due("of one", y.track(0, 8), 1);
    TrackVotes z = Checks.with("s0,0,10,2;r100;p5,0,0;r200;p5,0,0;r300;h2,5,0;");
    z.strike(1);
    Checks.due("one each", z.track(0, 7), 1);
    Checks.due("the first such", z.track(0, 8), 0);
    TrackVotes w = Checks.with("s0,0,10,2;r100;p5,0,0;r200;r300;p6,0,0;");
    w.strike(1);
    Checks.due("the most", w.track(0, 7), 2);
    Checks.due("whose", w.track(0, 8), 1);
  }

  // ---- VERTICES

  private static void vertices() {
    Checks.says("one that is no more than GAP above the one ahead is of the same VERTEX");
    for (int gap : new int[] {0, 1, 20, 999}) {
      TrackVotes x = Checks.with("s0,0,1,2;r100;r200;p0,0,0;p" + gap + ",0,0;g" + gap + ";");
      Checks.due("just GAP " + gap, x.many(2), 1);
      TrackVotes y = Checks.with("s0,0,1,2;r100;r200;p0,0,0;p" + (gap + 1) + ",0,0;g" + gap + ";");
      Checks.due("GAP " + gap + " and 1", y.many(2), 2);
    }
    // 0, 20, 40, 61: the one ahead, not the first.
    TrackVotes z = Checks.with("s0,0,1,2;r100;r200;p61,0,0;p40,0,0;p0,0,0;p20,0,0;");
    Checks.due("VERTICES", z.many(2), 2);
    Checks.due("TRACKS", z.vertex(0, 0), 3);
    Checks.due("PLACE", z.vertex(0, 1), 20);
    Checks.due("the greatest", z.many(5), 3);
    Checks.says("TRACKS in order of A floored");
    // Starts 7/2 and 3: both 3.
    TrackVotes w = Checks.with(FLAT + "h0,4,0;h1,5,0;h0,3,0;h1,3,0;g0;");
    Checks.due("TRACKS", w.many(0), 2);
    Checks.due("one VERTEX", w.many(2), 1);
    // Starts -1/2 and 0: -1 and 0.
    TrackVotes v = Checks.with(FLAT + "h0,3,0;h1,10,0;h0,3,0;h1,9,0;h0,12,0;g0;");
    Checks.due("A floored", v.track(0, 5), 0);
    Checks.due("A floored", v.track(1, 5), 13);
    Checks.due("its VERTEX", v.track(0, 4), 0);
    Checks.due("its VERTEX", v.track(1, 4), 1);
    // Taken by their VOTES, 5 to 2, at 300, 100, 200, 0.
    TrackVotes u = Checks.with("s0,0,10,2;r1;r2;r3;r4;r5;");
    int[] high = {300, 100, 200, 0};
    int[] due = {3, 1, 2, 0};
    for (int i = 0; i < 4; i++) for (int l = 0; l < 5 - i; l++) u.add(l, high[i], 0);
    Checks.due("VERTICES", u.many(2), 4);
    for (int i = 0; i < 4; i++) {
      Checks.due("A floored", u.track(i, 5), high[i]);
      Checks.due("its VERTEX", u.track(i, 4), due[i]);
      Checks.due("PLACE", u.vertex(i, 1), 100 * i);
    }
    Checks.text(u, "g100;");
    Checks.due("one VERTEX", u.many(2), 1);
    Checks.due("its PLACE", u.vertex(0, 1), 150);
    Checks.due("its TRACKS", u.vertex(0, 0), 4);
    Checks.says("Its PLACE: the mean of its A floored (floored).");
    place(0, 1, 0);
    place(0, -1, -1);
    place(3, 4, 3);
    place(-3, -4, -4);
    place(-9, 9, 0);
    place(5, 5, 5);
  }

  private static void place(int one, int other, int due) {
    TrackVotes x = Checks.with("s0,0,1,2;r100;r200;p" + one + ",0,0;p" + other + ",0,0;");
    Checks.due("TRACKS of " + one + ", " + other, x.vertex(0, 0), 2);
    Checks.due("PLACE of " + one + ", " + other, x.vertex(0, 1), due);
  }

  private static void vertexAsked() {
    Checks.says("Of a VERTEX (by order of A): TRACKS (what 0), PLACE (1). -100000 for others.");
    Checks.due("nothing", new TrackVotes().vertex(0, 0), -100000);
    TrackVotes x = Checks.with("s0,0,1,2;r100;r200;p500,0,0;p-500,0,0;");
    Checks.due("the lower first", x.vertex(0, 1), -500);
    Checks.due("then the higher", x.vertex(1, 1), 500);
    Checks.due("its TRACKS", x.vertex(1, 0), 1);
    for (int what = 0; what < 2; what++) {
      Checks.due("vertex(-1, " + what + ")", x.vertex(-1, what), -100000);
      Checks.due("vertex(2, " + what + ")", x.vertex(2, what), -100000);
      for (int v : FAR) Checks.due("vertex(" + v + ", " + what + ")", x.vertex(v, what), -100000);
    }
    Checks.due("vertex(0, -1)", x.vertex(0, -1), -100000);
    Checks.due("vertex(0, 2)", x.vertex(0, 2), -100000);
    for (int what : FAR) Checks.due("vertex(0, " + what + ")", x.vertex(0, what), -100000);
    // 20 tracks, each a vertex of its own.
    TrackVotes y = Checks.with("s0,0,1,2;r100;r300;g0;");
    for (int i = 0; i < 20; i++) {
      y.add(0, -7 * i, 0);
      y.add(1, -7 * i, 0);
    }
    Checks.due("VERTICES", y.many(2), 20);
    for (int i = 0; i < 20; i++) {
      Checks.due("PLACE " + i, y.vertex(i, 1), -7 * (19 - i));
      Checks.due("its VERTEX", y.track(i, 4), i);
    }
    Checks.due("no 21st", y.vertex(20, 0), -100000);
  }

  private static void things() {
    Checks.says("What a THING of THE TRIGGER is now (its letter, as a byte). NONE: no such letter.");
    TrackVotes x = Checks.with(FLAT + "h0,5,0;h1,5,0;h0,55,0;");
    String letters = "nhvgmluo";
    int[] due = {1, 3, 1, 0, 2, 2, 1, 1};
    for (int c = -1; c <= 256; c++) {
      int which = letters.indexOf(c);
      if (which >= 0 || c % 3 == 0 || (c >= 'a' && c <= 'z')) Checks.due("thing(" + c + ")", x.thing(c), c < 0 || which < 0 ? -1 : due[which]);
    }
    for (char c : letters.toCharArray()) {
      Checks.due("thing(" + c + " and 256)", x.thing(c + 256), -1);
      Checks.due("thing(" + c + " less 256)", x.thing(c - 256), -1);
      Checks.due("thing of " + c + " as a capital", x.thing(c - 32), -1);
    }
    for (int n : FAR) Checks.due("thing(" + n + ")", x.thing(n), -1);
    TrackVotes none = new TrackVotes();
    for (char c : letters.toCharArray()) Checks.due("nothing: thing(" + c + ")", none.thing(c), 0);
    x.dead(1);
    int[] dead = {0, 2, 0, 0, 0, 1, 2, 0};
    for (int i = 0; i < 8; i++) Checks.due("thing(" + letters.charAt(i) + ")", x.thing(letters.charAt(i)), dead[i]);
    Checks.says("THING: a NUMBER (1 to 4 digits) or n TRACKS, h HITS that COUNT");
    // Three tracks, of 3, 2 and 2 hits, two of them in one vertex; 8 hits, and slopes that make ghosts.
    TrackVotes y = Checks.with("s0,1,10,2;r1;r2;r3;r4;h0,5,0;h1,5,0;h2,5,0;h0,15,0;h1,15,0;h0,95,0;h1,95,0;h2,995,0;");
    int[] now = {3, 8, 2, 6, 3, 4, 1, 2};
    for (int i = 0; i < 8; i++) {
      char c = letters.charAt(i);
      Checks.due("thing(" + c + ")", y.thing(c), now[i]);
      Checks.due(c + "=" + now[i], Checks.yes(y, c + "=" + now[i]), 1);
      Checks.due(c + "<" + now[i], Checks.yes(y, c + "<" + now[i]), 0);
      Checks.due(c + ">" + now[i], Checks.yes(y, c + ">" + now[i]), 0);
    }
  }

  // ---- PARTICLES and TRACKS

  private static void found() {
    Checks.says("FOUND of a PARTICLE: the TRACK with most HITS among those it left (at least half of these that COUNT, one at least; of like ones the first).");
    // It leaves 8, 16, 24, 32: each in a cell of its own. With one more in the first cell, a track has one of them.
    TrackVotes x = Checks.with("s0,0,10,2;r100;r200;r300;r400;p0,8,0;h1,9,0;");
    Checks.due("one of four", x.particle(0, 4), -2);
    x.strike(3);
    Checks.due("one of three that COUNT", x.particle(0, 4), -2);
    x.dead(2);
    Checks.due("one of two that COUNT", x.particle(0, 4), 0);
    x.strike(1);
    Checks.due("one of one", x.particle(0, 4), 0);
    x.strike(0);
    Checks.due("none that COUNTS", x.particle(0, 4), -2);
    TrackVotes none = Checks.with(FLAT + "h0,5,0;h1,5,0;p9999,50,5;");
    Checks.due("it left none: one at least", none.particle(0, 4), -2);
    // Two of four in each of two tracks: the first of like ones.
    TrackVotes y = Checks.with("s0,0,10,2;r100;r200;r300;r400;p0,4,0;");
    Checks.due("4, 8 and 12, 16", y.many(0), 2);
    Checks.due("the first", y.particle(0, 4), 0);
    // 5, 9 with one more, 13, 17, and 21 alone: two in each track, of five.
    TrackVotes z = Checks.with("s0,0,10,2;r100;r200;r300;r400;r500;p1,4,0;h2,5,0;");
    Checks.due("5, 9 and one more", z.track(0, 3), 3);
    Checks.due("13, 17", z.track(1, 3), 2);
    Checks.due("two of five: less than half", z.particle(0, 4), -2);
    z.strike(4);
    Checks.due("two of four, of like ones the first", z.particle(0, 4), 0);
    TrackVotes w = Checks.with("s0,0,10,2;r100;r200;r300;r400;r500;p-9,4,0;h4,-5,0;h3,-5,0;");
    // -5, -1 with two more: four votes; 3, 7: two; 11 alone.
    Checks.due("the first TRACK", w.track(0, 3), 4);
    Checks.due("two of its HITS", w.track(0, 7), 2);
    Checks.due("two of five: less than half", w.particle(0, 4), -2);
    w.strike(4);
    Checks.due("two of four", w.particle(0, 4), 0);
    TrackVotes v = Checks.with("s0,0,10,2;r100;r200;r300;r400;r500;p-2,4,0;h4,-5,0;h3,-5,0;h2,-5,0;h1,-5,0;");
    // 2, 6 | 10, 14, 18; four of nobody's at -5 are ahead.
    Checks.due("four of nobody's", v.track(0, 7), 0);
    Checks.due("most HITS", v.particle(0, 4), 1);
    Checks.due("three of five", v.track(1, 7), 3);
    // All 12, each with a TRACK of its own, and 8 of nobody's ahead of them.
    StringBuilder text = new StringBuilder("s0,0,10,2;r1;r2;");
    for (int p = 0; p < 12; p++) text.append("p").append(5 + 10 * p).append(",0,0;");
    TrackVotes u = Checks.with(text.toString());
    for (int i = 1; i <= 8; i++) for (int l = 0; l < 2; l++) u.add(l, -10 * i, 0);
    for (int p = 0; p < 12; p++) {
      Checks.due("FOUND of " + p, u.particle(p, 4), 8 + p);
      Checks.due("PURE", u.track(8 + p, 7), 2);
      Checks.due("whose", u.track(8 + p, 8), p);
    }
    Checks.due("nobody's", u.track(7, 7), 0);
    Checks.due("FOUND by the BEST NEED", u.bestNeed(1), 12);
    Checks.due("FOUND of none by it", u.bestNeed(2), 8);
    for (int l = 0; l < 2; l++) u.add(l, -90, 0);
    Checks.due("no 21st", u.particle(11, 4), -2);
    Checks.due("FOUND by the BEST NEED", u.bestNeed(1), 11);
    Checks.due("FOUND of none by it", u.bestNeed(2), 9);
  }

  private static void worth() {
    Checks.says("WORTH of a LAYER: TRACKS less TRACKS were it dead (may be below 0).");
    TrackVotes x = Checks.with(FLAT + "r400;h0,5,0;h1,5,0;");
    Checks.due("a TRACK less", x.worth(0), 1);
    Checks.due("a TRACK less", x.worth(1), 1);
    Checks.due("no HITS", x.worth(2), 0);
    x.dead(1);
    Checks.due("dead as it is", x.worth(1), 0);
    TrackVotes y = Checks.with("s0,1,1,2;r100;r200;r300;h1,1,0;h0,2,0;h0,3,0;h2,4,0;h1,3,0;");
    Checks.due("below 0", y.worth(2), -1);
    Checks.due("it is alive as it was", y.is(1), 3);
    Checks.due("no DEED", y.is(14), 1);
    Checks.says("-100000: no such one.");
    Checks.due("worth(3)", y.worth(3), -100000);
    Checks.due("worth(-1)", y.worth(-1), -100000);
    for (int l : FAR) Checks.due("worth(" + l + ")", y.worth(l), -100000);
    Checks.due("without LAYERS", new TrackVotes().worth(0), -100000);
    TrackVotes z = Checks.with("s0,0,10,8;r1;r2;r3;r4;r5;r6;r7;r8;p5,0,0;");
    for (int l = 0; l < 8; l++) Checks.due("all are needed", z.worth(l), 1);
    z.need(7);
    for (int l = 0; l < 8; l++) Checks.due("seven are enough", z.worth(l), 0);
  }

  private static void bestNeed() {
    Checks.says("BEST NEED: of 2 to 8 that by which PARTICLES FOUND less TRACKS that are FOUND of none is most (of like ones the least).");
    TrackVotes none = new TrackVotes();
    int[] nothing = {2, 0, 0};
    for (int what = 0; what < 3; what++) Checks.due("nothing", none.bestNeed(what), nothing[what]);
    // A track of n hits that no particle left, for n 2 to 7: without it from n and 1 on.
    for (int n = 2; n <= 7; n++) {
      TrackVotes x = Checks.with("s0,0,10,3;r1;r2;r3;r4;r5;r6;r7;r8;p5,0,0;");
      for (int l = 0; l < n; l++) x.add(l, 55, 0);
      Checks.due("a ghost of " + n, x.bestNeed(0), n + 1);
      Checks.due("FOUND", x.bestNeed(1), 1);
      Checks.due("of none", x.bestNeed(2), 0);
    }
    TrackVotes y = Checks.with("s0,0,10,3;r1;r2;r3;r4;r5;r6;r7;r8;p5,0,0;");
    for (int l = 0; l < 8; l++) y.add(l, 55, 0);
    Checks.due("8 of nobody's: of like ones the least", y.bestNeed(0), 2);
    Checks.due("FOUND", y.bestNeed(1), 1);
    Checks.due("of none", y.bestNeed(2), 1);
    Checks.due("NEED stays", y.is(8), 3);
    Checks.due("no DEED but these", y.is(14), 8);
    // Two particles with one track: both are FOUND by it.
    TrackVotes z = Checks.with(FLAT + "p5,0,0;p6,0,0;");
    z.strike(0);
    z.strike(3);
    Checks.due("TRACKS", z.many(0), 1);
    Checks.due("FOUND of both", z.bestNeed(1), 2);
    Checks.due("of none", z.bestNeed(2), 0);
    // Three particles of 4, 3 and 2 hits that COUNT, one with a single one; nobody's of 3 and of 2.
    TrackVotes w = Checks.with("s0,0,10,2;r1;r2;r3;r4;p5,0,0;p25,0,0;p45,0,0;p65,0,0;h0,85,0;h1,85,0;h2,85,0;");
    for (int h : new int[] {4, 8, 9, 12, 13, 14}) w.strike(h);
    Checks.due("by 2: three less one", w.bestNeed(0), 2);
    Checks.due("FOUND", w.bestNeed(1), 3);
    Checks.due("of none", w.bestNeed(2), 1);
    w.add(0, 105, 0);
    w.add(1, 105, 0);
    Checks.due("by 2 three less two, by 3 two less one, by 4 one", w.bestNeed(0), 2);
    w.add(2, 125, 0);
    w.add(3, 125, 0);
    Checks.due("by 2 three less three, by 3 two less one", w.bestNeed(0), 3);
    Checks.due("FOUND", w.bestNeed(1), 2);
    Checks.due("of none", w.bestNeed(2), 1);
    w.add(1, 145, 0);
    w.add(2, 145, 0);
    w.add(3, 145, 0);
    Checks.due("by 3 two less two, by 4 one", w.bestNeed(0), 4);
    Checks.due("FOUND", w.bestNeed(1), 1);
    Checks.due("of none", w.bestNeed(2), 0);
    Checks.says("BEST NEED (what 0), PARTICLES FOUND by it (1), TRACKS that are FOUND of none by it (2). NONE for others.");
    Checks.due("bestNeed(-1)", z.bestNeed(-1), -1);
    Checks.due("bestNeed(3)", z.bestNeed(3), -1);
    for (int what : FAR) Checks.due("bestNeed(" + what + ")", z.bestNeed(what), -1);
  }

  // ---- how far off

  private static void cross() {
    Checks.says("CROSS: the upper number (what 0), the lower (1). -2: they have like slopes; -1000000000000 for others, a TRACK with itself.");
    TrackVotes y = Checks.with("s0,0,100,2;r100;r300;h0,50,0;h1,50,0;h0,49,0;h1,52,0;");
    // 50, and 49 with 3/200 for each X from 100 on: 1 more at 100 and 200/3.
    cross(y, 0, 1, 500, 3);
    cross(y, 1, 0, 500, 3);
    TrackVotes z = Checks.with("s0,0,100,2;r100;r300;h0,50,0;h1,50,0;h0,49,0;h1,47,0;");
    // 49 less 1/100 from 100 on: 1 more at 0.
    cross(z, 0, 1, 0, 1);
    cross(z, 1, 0, 0, 1);
    TrackVotes w = Checks.with("s0,0,100,2;r100;r300;h0,50,0;h1,50,0;h0,49,0;h1,48,0;");
    // 49 less 1/200 from 100 on: 1 more at -100.
    cross(w, 0, 1, -100, 1);
    cross(w, 1, 0, -100, 1);
    TrackVotes v = Checks.with("s0,0,100,2;r100;r300;h0,50,0;h1,50,0;h0,49,0;h1,49,0;");
    for (int what = 0; what < 2; what++) {
      Checks.due("like slopes", v.cross(0, 1, what), -2);
      Checks.due("like slopes", v.cross(1, 0, what), -2);
      Checks.due("with itself", v.cross(0, 0, what), NO_FRACTION);
      Checks.due("with itself", v.cross(1, 1, what), NO_FRACTION);
      for (int i : new int[] {-1, 2, Integer.MIN_VALUE, Integer.MAX_VALUE}) {
        Checks.due("cross(" + i + ", 0, " + what + ")", v.cross(i, 0, what), NO_FRACTION);
        Checks.due("cross(0, " + i + ", " + what + ")", v.cross(0, i, what), NO_FRACTION);
        Checks.due("cross(" + i + ", " + i + ", " + what + ")", v.cross(i, i, what), NO_FRACTION);
      }
    }
    for (int what : new int[] {-1, 2, Integer.MIN_VALUE, Integer.MAX_VALUE}) {
      Checks.due("like slopes, what " + what, v.cross(0, 1, what), NO_FRACTION);
      Checks.due("what " + what, y.cross(0, 1, what), NO_FRACTION);
    }
    Checks.due("nothing", new TrackVotes().cross(0, 1, 0), NO_FRACTION);
    Checks.says("a fraction in lowest terms (its lower number above 0)");
    // 10, and 7 and X; 10, and 13 less X: they meet at 3.
    TrackVotes near = Checks.with("s0,0,100,2;r1;r2;h0,10,0;h1,10,0;h0,8,0;h1,9,0;");
    cross(near, 0, 1, 3, 1);
    cross(near, 1, 0, 3, 1);
    TrackVotes falls = Checks.with("s0,0,100,2;r1;r2;h0,10,0;h1,10,0;h0,9,0;h1,8,0;");
    cross(falls, 0, 1, 0, 1);
    cross(falls, 1, 0, 0, 1);
    Checks.says("their lines (without bends)");
    // Both flat but for their bends, -1 and 1: their lines have like slopes.
    TrackVotes u = Checks.with("s1,0,1,3;r100;r200;r300;p0,0,1;p500,0,-1;");
    Checks.due("bends", u.track(0, 0) * u.track(1, 0), -1);
    Checks.due("like slopes", u.cross(0, 1, 0), -2);
  }

  private static void cross(TrackVotes x, int i, int j, long upper, long lower) {
    Checks.due("cross(" + i + ", " + j + ", 0)", x.cross(i, j, 0), upper);
    Checks.due("cross(" + i + ", " + j + ", 1)", x.cross(i, j, 1), lower);
  }

  private static void predicted() {
    Checks.says("PREDICTED: A and B times X, floored, and what the TRACK's bend lifts there.");
    // -1 at 2, -2 at 4: -1/2 for each X.
    TrackVotes x = Checks.with("s0,0,10,2;r1;r2;r3;r4;r5;h1,-1,0;h3,-2,0;");
    int[] due = {-1, -1, -2, -2, -3};
    for (int l = 0; l < 5; l++) Checks.due("predicted(0, " + l + ")", x.predicted(0, l), due[l]);
    x.dead(0);
    Checks.due("on a dead one, too", x.predicted(0, 0), -1);
    // Bend -1 at 150, 250, 350, 450 lifts -3, -7, -13, -21.
    TrackVotes y = Checks.with("s1,0,1,3;r150;r250;r350;r450;h0,-3,0;h1,-7,0;h2,-13,0;");
    Checks.due("its bend is floored apart", y.predicted(0, 3), -21);
    Checks.says("PREDICTED of a TRACK at a LAYER. -100000 for others.");
    Checks.due("predicted(0, 5)", x.predicted(0, 5), -100000);
    Checks.due("predicted(0, -1)", x.predicted(0, -1), -100000);
    Checks.due("predicted(1, 0)", x.predicted(1, 0), -100000);
    Checks.due("predicted(-1, 0)", x.predicted(-1, 0), -100000);
    for (int n : FAR) {
      Checks.due("predicted(0, " + n + ")", x.predicted(0, n), -100000);
      Checks.due("predicted(" + n + ", 0)", x.predicted(n, 0), -100000);
    }
    Checks.due("nothing", new TrackVotes().predicted(0, 0), -100000);
  }

  private static void missing() {
    Checks.says("MISSING: LAYERS alive on which a TRACK has no HIT.");
    TrackVotes x = Checks.with("s0,0,10,2;r1;r2;r3;r4;r5;r6;r7;r8;h0,5,0;h7,5,0;");
    Checks.due("all but two", x.missing(0), 6);
    for (int l = 1; l < 7; l++) {
      if (l % 2 == 0) x.dead(l);
      else x.add(l, 5, 0);
      Checks.due("one less", x.missing(0), 6 - l);
    }
    x.dead(2);
    Checks.due("alive again", x.missing(0), 1);
    x.strike(0);
    Checks.due("the first", x.missing(0), 2);
    Checks.says("NONE: no such TRACK.");
    Checks.due("missing(1)", x.missing(1), -1);
    Checks.due("missing(-1)", x.missing(-1), -1);
    for (int n : FAR) Checks.due("missing(" + n + ")", x.missing(n), -1);
    Checks.due("nothing", new TrackVotes().missing(0), -1);
  }

  private static void nearest() {
    Checks.says("NEAREST: the HIT of a LAYER that COUNTS, of no TRACK, nearest to what is PREDICTED (of like ones the first).");
    TrackVotes x = Checks.with("s0,0,10,2;w0,9;r100;r200;r300;h0,5,0;h1,5,0;h2,105,0;h2,-95,0;h2,104,10;h1,5,0;");
    Checks.due("100 above, 100 below", x.nearest(0, 2), 2);
    Checks.due("one in the CELL, of no TRACK", x.nearest(0, 1), 5);
    Checks.says("-2: none; NONE for others.");
    Checks.due("all are of TRACKS", x.nearest(0, 0), -2);
    x.strike(2);
    Checks.due("the other", x.nearest(0, 2), 3);
    x.strike(3);
    Checks.due("none that COUNTS", x.nearest(0, 2), -2);
    Checks.text(x, "w0,10;");
    Checks.due("it COUNTS", x.nearest(0, 2), 4);
    x.dead(2);
    Checks.due("on a dead one", x.nearest(0, 2), -2);
    Checks.due("nearest(0, 3)", x.nearest(0, 3), -1);
    Checks.due("nearest(0, -1)", x.nearest(0, -1), -1);
    Checks.due("nearest(1, 0)", x.nearest(1, 0), -1);
    Checks.due("nearest(-1, 0)", x.nearest(-1, 0), -1);
    for (int n : FAR) {
      Checks.due("nearest(0, " + n + ")", x.nearest(0, n), -1);
      Checks.due("nearest(" + n + ", 0)", x.nearest(n, 0), -1);
    }
    Checks.due("nothing", new TrackVotes().nearest(0, 0), -1);
    TrackVotes y = Checks.with("s0,0,1,2;r100;r200;r300;h0,5,0;h1,5,0;h2,-95,0;h2,105,0;h2,-94,0;");
    Checks.due("one nearer", y.nearest(0, 2), 4);
    y.strike(4);
    Checks.due("of like ones the first", y.nearest(0, 2), 2);
    TrackVotes z = Checks.with("s0,0,1,2;r100;r200;r300;h2,6,0;h2,3,0;h2,8,0;h0,5,0;h1,5,0;h0,9,0;h1,9,0;h2,900,0;");
    Checks.due("TRACKS", z.many(0), 2);
    Checks.due("the first HIT of all", z.nearest(0, 2), 0);
    Checks.due("of the other TRACK", z.nearest(1, 2), 2);
    Checks.due("no TRACK's HIT, of neither", z.nearest(0, 0), -2);
    Checks.due("no TRACK's HIT, of neither", z.nearest(1, 1), -2);
    z.add(0, 100, 0);
    Checks.due("one of no TRACK", z.nearest(1, 0), 8);
    for (int i = 9; i < 60; i++) z.add(2, 500, 0);
    Checks.due("of 60", z.nearest(0, 2), 0);
    z.strike(0);
    z.strike(1);
    z.strike(2);
    Checks.due("of 60", z.nearest(0, 2), 9);
  }

  private static void offset() {
    Checks.says("OFFSET of a LAYER: Y less what is PREDICTED of all TRACKS' HITS there, the mean (floored; 0 without).");
    // 0, 1, 0 at 1, 2, 3: the line is at 1/3, floored 0: off 0, 1, 0.
    TrackVotes x = Checks.with("s0,0,10,3;r1;r2;r3;h0,0,0;h1,1,0;h2,0,0;");
    Checks.due("offset(0, 0)", x.offset(0, 0), 0);
    Checks.due("offset(1, 0)", x.offset(1, 0), 1);
    Checks.due("offset(1, 1)", x.offset(1, 1), 1);
    // One more at 3, 0, 3: off 1, -2, 1. The means are 1/2, -1/2, 1/2.
    Checks.text(x, "h0,13,0;h1,10,0;h2,13,0;");
    Checks.due("offset(0, 0)", x.offset(0, 0), 0);
    Checks.due("offset(1, 0)", x.offset(1, 0), -1);
    Checks.due("offset(1, 1)", x.offset(1, 1), 2);
    x.need(4);
    Checks.due("0 without", x.offset(1, 0), 0);
    Checks.due("of none", x.offset(1, 1), 0);
    Checks.says("OFFSET (what 0), how many HITS it is of (1). -100000 for others.");
    Checks.due("offset(0, -1)", x.offset(0, -1), -100000);
    Checks.due("offset(0, 2)", x.offset(0, 2), -100000);
    for (int what = 0; what < 2; what++) {
      Checks.due("offset(-1, " + what + ")", x.offset(-1, what), -100000);
      Checks.due("offset(3, " + what + ")", x.offset(3, what), -100000);
      for (int n : FAR) Checks.due("offset(" + n + ", " + what + ")", x.offset(n, what), -100000);
    }
    for (int n : FAR) Checks.due("offset(0, " + n + ")", x.offset(0, n), -100000);
    Checks.due("nothing", new TrackVotes().offset(0, 0), -100000);
  }

  private static void window(TrackVotes x, int ticks, int first, int count) {
    Checks.due("window(" + ticks + ", 0)", x.window(ticks, 0), first);
    Checks.due("window(" + ticks + ", 1)", x.window(ticks, 1), count);
  }

  private static void window() {
    Checks.says("WINDOW: of so many ticks behind one another (0 to 999) those with most HITS");
    TrackVotes x = Checks.with("r1;r2;h0,0,0;h1,0,9;h0,0,989;h1,0,999;");
    window(x, 1, 0, 1);
    window(x, 9, 0, 1);
    window(x, 10, 0, 2);
    x.strike(0);
    window(x, 1, 9, 1);
    window(x, 9, 1, 1);
    window(x, 10, 0, 1);
    window(x, 11, 989, 2);
    window(x, 12, 988, 2);
    window(x, 990, 0, 2);
    window(x, 991, 9, 3);
    Checks.says("the first such");
    TrackVotes y = Checks.with("r1;h0,0,5;h0,0,6;h0,0,500;h0,0,501;h0,0,998;h0,0,999;");
    window(y, 2, 5, 2);
    window(y, 3, 4, 2);
    window(y, 7, 0, 2);
    window(y, 1000, 0, 6);
    window(y, 999, 1, 6);
    window(y, 995, 5, 6);
    window(y, 994, 5, 5);
    y.strike(0);
    window(y, 2, 500, 2);
    y.strike(2);
    window(y, 2, 998, 2);
    window(y, 3, 997, 2);
    window(y, 999, 1, 4);
    TrackVotes one = Checks.with("r1;h0,0,700;");
    window(one, 1, 700, 1);
    window(one, 100, 601, 1);
    window(one, 700, 1, 1);
    window(one, 701, 0, 1);
    // Told from the latest to the first.
    TrackVotes z = Checks.with("r1;h0,0,901;h0,0,900;h0,0,501;h0,0,500;h0,0,301;h0,0,300;h0,0,100;");
    window(z, 2, 300, 2);
    window(z, 1, 100, 1);
    window(z, 202, 300, 4);
    z.strike(4);
    window(z, 2, 500, 2);
    for (int i = 7; i < 60; i++) z.add(0, 0, i < 33 ? 20 : 800);
    window(z, 1, 800, 27);
    window(z, 102, 800, 29);
    window(z, 101, 800, 28);
    Checks.says("of LAYERS that are alive (FROM, TO aside)");
    Checks.text(x, "w100,100;");
    window(x, 1000, 0, 3);
    x.dead(1);
    window(x, 1000, 0, 1);
    window(x, 1, 989, 1);
    x.dead(0);
    window(x, 1, 0, 0);
    window(x, 1000, 0, 0);
    Checks.says("WINDOW of 1 to 1000 ticks: the first (what 0), how many HITS (1). NONE for others.");
    for (int what = 0; what < 2; what++) {
      Checks.due("window(0, " + what + ")", y.window(0, what), -1);
      Checks.due("window(1001, " + what + ")", y.window(1001, what), -1);
      Checks.due("window(-1, " + what + ")", y.window(-1, what), -1);
      Checks.due("window of the least", y.window(Integer.MIN_VALUE, what), -1);
      Checks.due("window of the greatest", y.window(Integer.MAX_VALUE, what), -1);
      Checks.due("nothing", new TrackVotes().window(1, what), 0);
      Checks.due("nothing", new TrackVotes().window(1000, what), 0);
    }
    Checks.due("window(1, -1)", y.window(1, -1), -1);
    Checks.due("window(1, 2)", y.window(1, 2), -1);
    for (int what : FAR) Checks.due("window(1, " + what + ")", y.window(1, what), -1);
  }
}
