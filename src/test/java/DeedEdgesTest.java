/** The edges of deeds, of what is kept, taken back and written, and of events that wait (promises 1, 9, 22 to 24, 27 to 30, 36, 39 to 43). */
public final class DeedEdgesTest {
  private static final int[] FAR = {Integer.MIN_VALUE, -10001, 10001, Integer.MAX_VALUE};
  /** 14 HITS that COUNT in cells of their own, no bends and slopes: WORK 14. */
  private static final String WORK_14 = "s0,0,1,2;r1;h0,0,0;h0,1,0;h0,2,0;h0,3,0;h0,4,0;h0,5,0;h0,6,0;h0,7,0;h0,8,0;h0,9,0;h0,10,0;h0,11,0;h0,12,0;h0,13,0;";

  public static void main(String[] args) {
    newObject();
    isAsked();
    work();
    ticks();
    queueAsked();
    lostAndWaiting();
    late();
    workersAsked();
    add();
    strike();
    dead();
    need();
    align();
    whatIsADeed();
    whatIsNone();
    eightDeeds();
    undoOfEach();
    seenAnew();
    keepAndRestore();
    keptStays();
    write();
    octet();
    refusedCalls();
    askingChangesNothing();
    twoObjects();
    Checks.finish("DeedEdgesTest");
  }

  // ---- what there is

  private static void newObject() {
    Checks.says("TrackVotes(): No LAYERS.");
    TrackVotes x = new TrackVotes();
    int[] due = {0, 0, 0, 0, 0, 1, 10, 10, 3, 20, 0, 999, 100, 50, 0, 0};
    for (int what = 0; what < 16; what++) Checks.due("is(" + what + ")", x.is(what), due[what]);
    Checks.due("layer(0, 0)", x.layer(0, 0), -1);
    Checks.due("hit(0, 0)", x.hit(0, 0), -100000);
    Checks.due("particle(0, 0)", x.particle(0, 0), -100000);
    Checks.due("yes()", x.yes(), 0);
    Checks.due("fault()", x.fault(), -1);
    Checks.due("ended()", x.ended(), -1);
    Checks.due("octet(0)", x.octet(0), -1);
    Checks.due("undo()", x.undo(), -1);
    Checks.due("restore(0)", x.restore(0), false);
    Checks.due("restore(1)", x.restore(1), false);
    Checks.due("work()", x.work(), 0);
    Checks.says("The constants: NONE = -1: None.");
    Checks.due("NONE", TrackVotes.NONE, -1);
  }

  private static void isAsked() {
    Checks.says("14 DEEDS that can be taken back, 15 bytes of the tape. NONE for others.");
    TrackVotes x = Checks.with("r1;r2;h0,0,0;h1,0,5;p0,0,0;s2,3,4,5;g6;w1,8;q9,10;");
    x.dead(1);
    x.feed(0, 0, 0, 0, 0);
    int[] due = {2, 1, 4, 0, 1, 2, 3, 4, 5, 6, 1, 8, 9, 10, 2, 20};
    for (int what = 0; what < 16; what++) Checks.due("is(" + what + ")", x.is(what), due[what]);
    Checks.due("is(-1)", x.is(-1), -1);
    Checks.due("is(16)", x.is(16), -1);
    for (int what : FAR) Checks.due("is(" + what + ")", x.is(what), -1);
    TrackVotes y = Checks.with("r1;r2;r3;r4;r5;r6;r7;r8;" + "p0,0,0;".repeat(7) + "p9999,50,5;h0,0,0;h0,0,0;h0,0,0;");
    Checks.due("full: LAYERS", y.is(0), 8);
    Checks.due("full: HITS", y.is(2), 60);
    Checks.due("all alive", y.is(1), 8);
    Checks.due("all COUNT", y.is(3), 60);
    for (int l = 0; l < 8; l++) y.dead(l);
    Checks.due("none alive", y.is(1), 0);
    Checks.due("none COUNTS", y.is(3), 0);
  }

  // ---- events that wait

  private static void work() {
    Checks.says("WORK: HITS that COUNT times CELLS' bends times slopes (2 BENDS and 1, 2 SLOPES and 1), and 10 for each TRACK.");
    Checks.due("nothing", new TrackVotes().work(), 0);
    TrackVotes x = Checks.with("s0,0,10,2;r100;r200;h0,5,0;");
    Checks.due("one", x.work(), 1);
    x.add(1, 5, 0);
    Checks.due("two and a TRACK", x.work(), 12);
    Checks.text(x, "s3,20,10,2;");
    Checks.due("the most bends and slopes", x.work(), 2 * 7 * 41 + 10);
    Checks.text(x, "s3,0,10,2;");
    Checks.due("bends", x.work(), 2 * 7 + 10);
    Checks.text(x, "s0,20,10,3;");
    Checks.due("slopes, no TRACK", x.work(), 2 * 41);
    x.strike(0);
    Checks.due("that COUNT", x.work(), 41);
    TrackVotes y = Checks.with("s3,20,1,2;r100;r200;" + "h0,0,0;".repeat(30));
    Checks.text(y, "h1,0,0;".repeat(30));
    Checks.due("the most", y.work(), 60 * 7 * 41 + 10 * 20);
    Checks.text(y, "q1,9999;");
    Checks.due("a QUEUE of the most", y.queue(200, 999, 1, 50, 3) > 0, true);
    Checks.due("one EVENT", y.queue(1, 1, 1, 0, 3), 60 * 7 * 41 + 200);
    Checks.due("LATE", y.queue(1, 1, 1, 0, 1), 1);
  }

  /** WORK 14 at this SPEED: the ticks of one EVENT. */
  private static int ticksBy(int speed) {
    return Checks.with(WORK_14 + "q" + speed + ",50;").queue(1, 1, 1, 0, 3);
  }

  private static void ticks() {
    Checks.says("each takes WORK by SPEED (cut up, 1 at least) ticks");
    Checks.due("WORK", Checks.with(WORK_14).work(), 14);
    int[][] rows = {{1, 14}, {2, 7}, {3, 5}, {6, 3}, {7, 2}, {8, 2}, {13, 2}, {14, 1}, {15, 1}, {9999, 1}};
    for (int[] row : rows) Checks.due("SPEED " + row[0], ticksBy(row[0]), row[1]);
    TrackVotes none = new TrackVotes();
    Checks.due("WORK 0", none.queue(1, 1, 1, 0, 3), 1);
    Checks.text(none, "q1,0;");
    Checks.due("WORK 0, SPEED 1", none.queue(1, 1, 1, 0, 3), 1);
    Checks.due("1 at least, so LATE by LIMIT 0", none.queue(5, 1, 1, 0, 1), 5);
  }

  private static void queueAsked() {
    Checks.says("A QUEUE of n (1 to 200) EVENTS, a PERIOD (1 to 999), w workers (1 to 8), b (0 to 50)");
    TrackVotes x = new TrackVotes();
    int[] least = {1, 1, 1, 0, 0};
    int[] most = {200, 999, 8, 50, 3};
    for (int i = 0; i < 5; i++) {
      for (int n : new int[] {least[i], most[i]}) Checks.due("the " + i + "th is " + n, ask(x, i, n) >= 0, true);
      for (int n : new int[] {least[i] - 1, most[i] + 1, Integer.MIN_VALUE, Integer.MAX_VALUE}) Checks.due("the " + i + "th is " + n, ask(x, i, n), -1);
    }
    for (int what = 0; what < 4; what++) {
      Checks.due("n 0, what " + what, x.queue(0, 1, 1, 0, what), -1);
      Checks.due("all at their least", x.queue(1, 1, 1, 0, what), what == 3 ? 1 : 0);
      Checks.due("all at their most", x.queue(200, 999, 8, 50, what), what == 3 ? 199 * 999 + 1 : 0);
    }
    Checks.says("one each PERIOD, the first at tick 0");
    Checks.due("the first", x.queue(1, 999, 1, 0, 3), 1);
    Checks.due("the second", x.queue(2, 999, 1, 0, 3), 1000);
    Checks.due("the second", x.queue(2, 1, 1, 0, 3), 2);
  }

  private static int ask(TrackVotes x, int which, int n) {
    int[] a = {2, 3, 2, 1, 1};
    a[which] = n;
    return x.queue(a[0], a[1], a[2], a[3], a[4]);
  }

  private static void queue(TrackVotes x, int n, int period, int w, int b, int... due) {
    for (int what = 0; what < 4; what++) {
      Checks.due("queue(" + n + ", " + period + ", " + w + ", " + b + ", " + what + ")", x.queue(n, period, w, b, what), due[what]);
    }
  }

  private static void lostAndWaiting() {
    // LOST, LATE, the most that waited, the last answer; an EVENT takes 14 ticks, LIMIT is far.
    TrackVotes x = Checks.with(WORK_14 + "q1,9999;");
    Checks.says("(who ends in a tick is free for what comes in it)");
    queue(x, 5, 14, 1, 0, 0, 0, 0, 70);
    queue(x, 5, 13, 1, 0, 2, 0, 0, 66);
    queue(x, 5, 15, 1, 0, 0, 0, 0, 74);
    queue(x, 5, 7, 2, 0, 0, 0, 0, 42);
    queue(x, 3, 6, 2, 0, 1, 0, 0, 20);
    Checks.says("one that comes while all work and b wait is LOST");
    queue(x, 10, 1, 1, 0, 9, 0, 0, 14);
    queue(x, 10, 1, 1, 1, 8, 0, 1, 28);
    queue(x, 10, 1, 1, 8, 1, 0, 8, 126);
    queue(x, 10, 1, 1, 9, 0, 0, 9, 140);
    queue(x, 10, 1, 1, 50, 0, 0, 9, 140);
    queue(x, 10, 1, 8, 0, 2, 0, 0, 21);
    queue(x, 10, 1, 8, 1, 1, 0, 1, 28);
    queue(x, 10, 1, 8, 2, 0, 0, 2, 29);
    // One is done every 14 ticks, and makes room in the tick in which it ends: 15 are taken up to tick 199, 50 wait.
    queue(x, 200, 1, 1, 50, 200 - 15 - 50, 0, 50, 65 * 14);
    Checks.says("the one that waits longest is next, as soon as a worker is free");
    // 0 to 14, then what came at 1, to 28; what comes at 14 waits again.
    queue(x, 15, 1, 1, 1, 12, 0, 1, 42);
    queue(x, 14, 1, 1, 1, 12, 0, 1, 28);
    queue(x, 3, 7, 1, 1, 0, 0, 1, 42);
    queue(x, 4, 7, 1, 1, 1, 0, 1, 42);
    queue(x, 5, 7, 1, 1, 1, 0, 1, 56);
  }

  private static void late() {
    Checks.says("LATE: answered more than LIMIT ticks behind its coming.");
    TrackVotes x = Checks.with(WORK_14 + "q1,14;");
    Checks.due("just LIMIT", x.queue(3, 14, 1, 0, 1), 0);
    Checks.text(x, "q1,13;");
    Checks.due("one more", x.queue(3, 14, 1, 0, 1), 3);
    Checks.text(x, "q1,27;");
    // Answered 14, 27 and 40 ticks behind.
    Checks.due("27 is not", x.queue(3, 1, 1, 9, 1), 1);
    Checks.text(x, "q1,26;");
    Checks.due("27 is", x.queue(3, 1, 1, 9, 1), 2);
    Checks.due("those that are LOST are not", x.queue(3, 1, 1, 0, 1), 0);
    Checks.text(x, "q14,0;");
    Checks.due("LIMIT 0", x.queue(3, 1, 1, 0, 1), 3);
    Checks.text(x, "q14,1;");
    Checks.due("LIMIT 1", x.queue(3, 1, 1, 0, 1), 0);
  }

  private static void workersAsked() {
    Checks.says("The fewest workers (1 to 8) by which of n EVENTS none is LOST or LATE. -2: none; NONE for others (as queue()).");
    TrackVotes x = Checks.with(WORK_14 + "q1,14;");
    for (int w = 1; w <= 9; w++) {
      Checks.due(w + " at once", x.workers(w, 1, 50), w < 9 ? w : -2);
      Checks.due(w + " at once, none may wait", x.workers(w, 1, 0), w < 9 ? w : -2);
    }
    Checks.text(x, "q1,9999;");
    // By tick 53 a single worker has begun with 4 of 54: 50 wait; in tick 54 one more comes.
    Checks.due("just 50 wait", x.workers(54, 1, 50), 1);
    Checks.due("a 51st would", x.workers(55, 1, 50), 2);
    Checks.due("none", x.workers(200, 1, 0), -2);
    Checks.due("one each 14", x.workers(200, 14, 0), 1);
    Checks.due("one each 13", x.workers(200, 13, 0), 2);
    Checks.due("one each 2", x.workers(200, 2, 0), 7);
    Checks.text(x, "q1,13;");
    Checks.due("each is LATE", x.workers(1, 999, 50), -2);
    TrackVotes y = new TrackVotes();
    Checks.due("the least", y.workers(1, 1, 0), 1);
    Checks.due("the most", y.workers(200, 999, 50), 1);
    for (int n : new int[] {0, 201, Integer.MIN_VALUE, Integer.MAX_VALUE}) Checks.due("n " + n, y.workers(n, 1, 0), -1);
    for (int n : new int[] {0, 1000, Integer.MIN_VALUE, Integer.MAX_VALUE}) Checks.due("PERIOD " + n, y.workers(1, n, 0), -1);
    for (int n : new int[] {-1, 51, Integer.MIN_VALUE, Integer.MAX_VALUE}) Checks.due("b " + n, y.workers(1, 1, n), -1);
  }

  // ---- deeds

  private static void add() {
    Checks.says("A HIT comes: its number. NONE: no such LAYER, Y, TIME (0 to 999), no room.");
    TrackVotes x = Checks.with("r1;r2;");
    Checks.due("the least", x.add(0, -9999, 0), 0);
    Checks.due("the greatest", x.add(1, 9999, 999), 1);
    int[][] bad = {{-1, 0, 0}, {2, 0, 0}, {0, -10000, 0}, {0, 10000, 0}, {0, 0, -1}, {0, 0, 1000}};
    for (int[] b : bad) Checks.due("add(" + b[0] + ", " + b[1] + ", " + b[2] + ")", x.add(b[0], b[1], b[2]), -1);
    for (int n : FAR) {
      Checks.due("LAYER " + n, x.add(n, 0, 0), -1);
      Checks.due("Y " + n, x.add(0, n, 0), -1);
      Checks.due("TIME " + n, x.add(0, 0, n), -1);
    }
    Checks.due("HITS", x.is(2), 2);
    Checks.due("DEEDS", x.is(14), 3);
    Checks.due("Y", x.hit(0, 1), -9999);
    Checks.due("Y", x.hit(1, 1), 9999);
    Checks.due("TIME", x.hit(1, 2), 999);
    Checks.due("of none", x.hit(1, 3), -2);
    x.dead(0);
    Checks.due("on a dead LAYER", x.add(0, 0, 0), 2);
    for (int i = 3; i < 60; i++) Checks.due("add", x.add(1, i, 0), i);
    Checks.due("no room", x.add(1, 0, 0), -1);
    x.strike(5);
    Checks.due("one that is struck leaves no room", x.add(1, 0, 0), -1);
    Checks.due("HITS", x.is(2), 60);
    x.undo();
    x.undo();
    Checks.due("room again", x.add(1, 7, 0), 59);
    Checks.due("without LAYERS", new TrackVotes().add(0, 0, 0), -1);
  }

  private static void strike() {
    Checks.says("A HIT is struck: HITS that COUNT then. NONE: no such one, it is struck.");
    TrackVotes x = Checks.with("r1;w0,10;h0,1,0;h0,2,10;h0,3,11;");
    Checks.due("strike(3)", x.strike(3), -1);
    Checks.due("strike(-1)", x.strike(-1), -1);
    for (int n : FAR) Checks.due("strike(" + n + ")", x.strike(n), -1);
    Checks.due("DEEDS", x.is(14), 1);
    Checks.due("one that doesn't COUNT", x.strike(2), 2);
    Checks.due("the first", x.strike(0), 1);
    Checks.due("again", x.strike(0), -1);
    Checks.due("the last", x.strike(1), 0);
    Checks.due("its TIME", x.hit(1, 2), -1);
    Checks.due("its Y stays", x.hit(1, 1), 2);
    Checks.due("HITS", x.is(2), 3);
    Checks.due("DEEDS", x.is(14), 4);
    Checks.due("without HITS", new TrackVotes().strike(0), -1);
    TrackVotes y = Checks.with("r1;h0,1,0;");
    y.dead(0);
    Checks.due("on a dead LAYER", y.strike(0), 0);
    y.dead(0);
    Checks.due("still struck", y.is(3), 0);
  }

  private static void dead() {
    Checks.says("A LAYER is dead, or alive again: 1 if it is alive then, else 0. NONE: no such one.");
    TrackVotes x = Checks.with("r1;r2;r3;r4;r5;r6;r7;r8;");
    Checks.due("the first", x.dead(0), 0);
    Checks.due("the last", x.dead(7), 0);
    Checks.due("alive", x.is(1), 6);
    Checks.due("alive again", x.dead(7), 1);
    Checks.due("dead(-1)", x.dead(-1), -1);
    Checks.due("dead(8)", x.dead(8), -1);
    for (int n : FAR) Checks.due("dead(" + n + ")", x.dead(n), -1);
    Checks.due("alive", x.is(1), 7);
    Checks.due("DEEDS", x.is(14), 4);
    Checks.due("without LAYERS", new TrackVotes().dead(0), -1);
    Checks.due("no second", Checks.with("r1;").dead(1), -1);
  }

  private static void need() {
    Checks.says("NEED becomes n (2 to 8): what it was. NONE for others.");
    TrackVotes x = new TrackVotes();
    Checks.due("what it was at first", x.need(2), 3);
    Checks.due("need(8)", x.need(8), 2);
    Checks.due("need(1)", x.need(1), -1);
    Checks.due("need(9)", x.need(9), -1);
    for (int n : new int[] {0, -1, Integer.MIN_VALUE, Integer.MAX_VALUE}) Checks.due("need(" + n + ")", x.need(n), -1);
    Checks.due("it stays", x.is(8), 8);
    Checks.due("to what it was", x.need(8), 8);
    Checks.due("DEEDS", x.is(14), 3);
  }

  private static void align() {
    Checks.says("ALIGNED by -999 to 999: how many HITS are. NONE for others.");
    TrackVotes x = Checks.with("r1;r2;h0,0,0;h0,9000,0;h0,-9000,0;h1,0,0;h0,9001,0;h0,-9001,0;");
    Checks.due("align(0, 999)", x.align(0, 999), 4);
    Checks.says("all its HITS are so much higher (but those that would have no Y)");
    int[] up = {999, 9999, -8001, 0, 9001, -8002};
    for (int h = 0; h < 6; h++) Checks.due("hit(" + h + ", 1)", x.hit(h, 1), up[h]);
    x.undo();
    Checks.due("align(0, -999)", x.align(0, -999), 4);
    int[] down = {-999, 8001, -9999, 0, 8002, -9001};
    for (int h = 0; h < 6; h++) Checks.due("hit(" + h + ", 1)", x.hit(h, 1), down[h]);
    Checks.says("ALIGNED by -999 to 999: how many HITS are. NONE for others.");
    Checks.due("by 1000", x.align(0, 1000), -1);
    Checks.due("by -1000", x.align(0, -1000), -1);
    Checks.due("align(-1, 0)", x.align(-1, 0), -1);
    Checks.due("align(2, 0)", x.align(2, 0), -1);
    for (int n : FAR) {
      Checks.due("by " + n, x.align(0, n), -1);
      Checks.due("LAYER " + n, x.align(n, 0), -1);
    }
    for (int h = 0; h < 6; h++) Checks.due("hit(" + h + ", 1)", x.hit(h, 1), down[h]);
    Checks.due("DEEDS", x.is(14), 2);
    Checks.due("by 0", x.align(0, 0), 5);
    Checks.due("a DEED", x.is(14), 3);
    x.strike(0);
    x.dead(0);
    Checks.due("struck, and on a dead LAYER", x.align(0, 1), 5);
    Checks.due("its Y", x.hit(0, 1), -998);
    Checks.due("a LAYER without HITS", Checks.with("r1;").align(0, 5), 0);
    Checks.due("none can be", Checks.with("r1;h0,9999,0;").align(0, 1), 0);
    Checks.due("without LAYERS", new TrackVotes().align(0, 0), -1);
  }

  // ---- taken back

  private static void whatIsADeed() {
    Checks.says("DEEDS: text(), trigger(), add(), strike(), dead(), need(), align(), restore(): each that was done");
    TrackVotes x = new TrackVotes();
    Checks.due("text()", Checks.text(x, "r1;"), 1);
    Checks.due("DEEDS", x.is(14), 1);
    x.keep(0);
    Checks.due("trigger()", Checks.trigger(x, "1=1"), 2);
    Checks.due("DEEDS", x.is(14), 2);
    Checks.due("add()", x.add(0, 0, 0), 0);
    Checks.due("DEEDS", x.is(14), 3);
    Checks.due("strike()", x.strike(0), 0);
    Checks.due("DEEDS", x.is(14), 4);
    Checks.due("dead()", x.dead(0), 0);
    Checks.due("DEEDS", x.is(14), 5);
    Checks.due("need()", x.need(4), 3);
    Checks.due("DEEDS", x.is(14), 6);
    Checks.due("align()", x.align(0, 1), 1);
    Checks.due("DEEDS", x.is(14), 7);
    Checks.due("restore()", x.restore(0), true);
    Checks.due("DEEDS", x.is(14), 8);
    TrackVotes y = Checks.with("r1;");
    Checks.acts(y, "h0,0,0;x0;d0;n5;n9;");
    Checks.due("each ACT that was done", y.is(14), 5);
    Checks.due("back", y.undo(), 4);
    Checks.due("NEED", y.is(8), 3);
    Checks.due("still dead", y.is(1), 0);
    Checks.due("back", y.undo(), 3);
    Checks.due("alive", y.is(1), 1);
    Checks.due("still struck", y.hit(0, 2), -1);
    Checks.due("back", y.undo(), 2);
    Checks.due("not struck", y.hit(0, 2), 0);
    Checks.due("back", y.undo(), 1);
    Checks.due("no HIT", y.is(2), 0);
  }

  private static void whatIsNone() {
    Checks.says("each that was done");
    TrackVotes x = Checks.scene();
    int deeds = x.is(14);
    x.feed(0, 0, 0, 0, 0);
    x.end(3);
    x.text();
    x.keep(0);
    x.keep(1);
    x.write();
    x.acts();
    x.worth(0);
    x.bestNeed(0);
    x.queue(1, 1, 1, 0, 0);
    x.add(9, 0, 0);
    x.strike(99);
    x.dead(9);
    x.need(1);
    x.align(0, 1000);
    x.restore(2);
    Checks.due("none of these is one", x.is(14), deeds);
    x.undo();
    Checks.due("undo() neither", x.is(14), deeds - 1);
  }

  private static void eightDeeds() {
    Checks.says("the latest 8 can be taken back");
    for (int made = 0; made <= 20; made++) {
      TrackVotes x = Checks.with("r1;");
      x.undo();
      for (int i = 0; i < made; i++) Checks.text(x, "g" + (100 + i) + ";");
      int can = Math.min(made, 8);
      Checks.due("DEEDS of " + made, x.is(14), can);
      for (int i = can - 1; i >= 0; i--) {
        Checks.due("undo()", x.undo(), i);
        int left = made - (can - i);
        Checks.due("GAP", x.is(9), left == 0 ? 20 : 99 + left);
      }
      Checks.says("The latest DEED is taken back: how many still can be. NONE: none.");
      Checks.due("undo()", x.undo(), -1);
      Checks.due("GAP stays", x.is(9), made <= 8 ? 20 : 99 + made - 8);
    }
    TrackVotes y = new TrackVotes();
    for (int i = 0; i < 12; i++) y.need(2 + i % 7);
    for (int i = 0; i < 5; i++) y.undo();
    Checks.due("NEED", y.is(8), 8);
    for (int i = 0; i < 7; i++) y.need(2);
    Checks.due("3 and 7 are 8 at most", y.is(14), 8);
    for (int i = 7; i >= 0; i--) Checks.due("undo()", y.undo(), i);
    Checks.due("one of the first 7 was taken back, too", y.is(8), 7);
    Checks.due("undo()", y.undo(), -1);
  }

  private static void undoOfEach() {
    Checks.says("The latest DEED is taken back: how many still can be. NONE: none.");
    String before = Checks.all(Checks.scene());
    String[] names = {"text", "trigger", "no trigger", "add", "strike", "dead", "alive", "need", "align", "restore(0)", "restore(1)", "acts"};
    for (int i = 0; i < names.length; i++) {
      TrackVotes x = Checks.scene();
      Checks.due(names[i] + " is done", deed(x, i), true);
      Checks.due("DEEDS", x.is(14), 6);
      Checks.due("undo()", x.undo(), 5);
      Checks.same("undo() of " + names[i], Checks.all(x), before);
    }
  }

  /** What was worked out ahead of a DEED is worked out anew behind it. */
  private static void seenAnew() {
    Checks.says("Nothing is promised beyond the answers and state changes described above");
    for (int i = 0; i < 12; i++) {
      TrackVotes x = Checks.scene();
      TrackVotes y = Checks.scene();
      look(x);
      Checks.due("deed " + i, deed(x, i), true);
      Checks.due("deed " + i, deed(y, i), true);
      Checks.same("deed " + i, Checks.all(x), Checks.all(y));
      TrackVotes z = Checks.scene();
      Checks.due("deed " + i, deed(z, i), true);
      look(z);
      z.undo();
      Checks.same("undo() of deed " + i, Checks.all(z), Checks.all(Checks.scene()));
    }
  }

  private static void look(TrackVotes x) {
    for (int i = 0; i < 6; i++) x.many(i);
    for (int l = 0; l < 4; l++) x.worth(l);
    x.ghost(0, 0);
    x.vertex(0, 1);
    x.yes();
    x.bestNeed(0);
  }

  private static boolean deed(TrackVotes x, int which) {
    switch (which) {
      case 0: return Checks.text(x, "r500;h4,1,1;p3,0,0;s0,0,1,2;g5;w1,2;q3,4;") == 7;
      case 1: return Checks.trigger(x, "1=2") == 2;
      case 2: return Checks.trigger(x, "") == 0;
      case 3: return x.add(0, 3, 3) == 10;
      case 4: return x.strike(0) == 6;
      case 5: return x.dead(0) == 0;
      case 6: return x.dead(3) == 1;
      case 7: return x.need(2) == 3;
      case 8: return x.align(1, 3) == 3;
      case 9: return x.restore(0);
      case 10: return x.restore(1);
      default: return Checks.acts(x, "n8;") == 1;
    }
  }

  // ---- kept

  private static void keepAndRestore() {
    Checks.says("All is KEPT as k (0, 1): true; false for others.");
    for (int k : new int[] {-1, 2, Integer.MIN_VALUE, Integer.MAX_VALUE}) {
      Checks.changesNothing("keep(" + k + ")", x -> Checks.due("keep(" + k + ")", x.keep(k), false));
    }
    Checks.says("All is as KEPT as k: true (a DEED); false for others, nothing is KEPT there.");
    for (int k : new int[] {-1, 2, Integer.MIN_VALUE, Integer.MAX_VALUE}) {
      Checks.changesNothing("restore(" + k + ")", x -> Checks.due("restore(" + k + ")", x.restore(k), false));
    }
    for (int k = 0; k < 2; k++) {
      TrackVotes x = Checks.with("g77;");
      Checks.due("nothing is KEPT", x.restore(k), false);
      Checks.due("keep", x.keep(1 - k), true);
      Checks.due("nothing is KEPT there", x.restore(k), false);
      Checks.due("GAP", x.is(9), 77);
      Checks.due("no DEED", x.is(14), 1);
      Checks.due("keep", x.keep(k), true);
      Checks.due("restore", x.restore(k), true);
      Checks.due("a DEED", x.is(14), 2);
    }
    TrackVotes y = new TrackVotes();
    y.keep(0);
    Checks.text(y, "r1;h0,0,0;p0,0,0;s0,0,1,2;g5;w1,2;q3,4;");
    Checks.trigger(y, "1=1");
    Checks.due("of a new one", y.restore(0), true);
    int[] first = {0, 0, 0, 0, 0, 1, 10, 10, 3, 20, 0, 999, 100, 50, 3, 0};
    for (int i = 0; i < 16; i++) Checks.due("is(" + i + ")", y.is(i), first[i]);
    Checks.due("no TRIGGER", y.yes(), 0);
    Checks.due("undo()", y.undo(), 2);
    Checks.due("LAYERS", y.is(0), 1);
    Checks.due("PARTICLES", y.is(4), 1);
    Checks.due("THE TRIGGER", y.yes(), 1);
  }

  private static void keptStays() {
    Checks.says("All is as KEPT as k: true (a DEED)");
    TrackVotes x = Checks.scene();
    TrackVotes same = Checks.scene();
    x.keep(0);
    Checks.text(x, "r500;h4,1,1;p3,0,0;s0,0,1,2;g5;w1,2;q3,4;");
    x.strike(0);
    x.dead(1);
    x.align(2, 50);
    Checks.trigger(x, "1=2");
    Checks.due("restore(0)", x.restore(0), true);
    for (int h = 0; h < 10; h++) for (int what = 0; what < 6; what++) Checks.due("hit(" + h + ", " + what + ")", x.hit(h, what), same.hit(h, what));
    for (int l = 0; l < 5; l++) for (int what = 0; what < 3; what++) Checks.due("layer(" + l + ", " + what + ")", x.layer(l, what), same.layer(l, what));
    for (int what = 0; what < 14; what++) Checks.due("is(" + what + ")", x.is(what), same.is(what));
    Checks.due("no third PARTICLE", x.particle(2, 0), -100000);
    Checks.due("THE TRIGGER", x.yes(), same.yes());
    x.strike(1);
    x.restore(0);
    Checks.due("KEPT stays as it was", x.hit(1, 2), same.hit(1, 2));
    x.undo();
    Checks.due("undo() of restore()", x.hit(1, 2), -1);
    x.need(7);
    x.keep(0);
    x.need(6);
    x.restore(0);
    Checks.due("KEPT anew", x.is(8), 7);
    Checks.says("KEPT 0, 1.");
    x.restore(1);
    Checks.due("each for itself", x.is(8), 3);
    Checks.due("each for itself", x.layer(3, 1), 1);
    for (int i = 0; i < 8; i++) x.undo();
    Checks.due("undo() leaves what is KEPT", x.restore(0), true);
    Checks.due("NEED", x.is(8), 7);
    Checks.says("All is KEPT as k (0, 1): true; false for others.");
    TrackVotes y = Checks.with("g1;");
    Checks.feed(y, "g2;");
    y.keep(0);
    y.need(5);
    y.restore(0);
    Checks.due("the tape goes on", y.is(15), 3);
    Checks.due("text()", y.text(), 1);
    Checks.due("GAP", y.is(9), 2);
  }

  // ---- written

  private static void write() {
    Checks.says("LAYERS and SETTINGS (s, g, w, q) are written as ITEMS: how many bytes.");
    TrackVotes x = new TrackVotes();
    Checks.due("nothing", x.write(), 30);
    Checks.same("write()", Checks.written(x), "s1,10,10,3;g20;w0,999;q100,50;");
    String least = "r1;s0,0,1,2;g0;w0,0;q1,0;";
    Checks.same("the least", Checks.written(Checks.with(least)), least);
    String most = "r992;r993;r994;r995;r996;r997;r998;r999;s3,20,500,8;g999;w999,999;q9999,9999;";
    Checks.same("the most", Checks.written(Checks.with(most)), most);
    Checks.due("the most", Checks.with(most).write(), 77);
    String tens = "r9;r10;r99;r100;s1,9,99,7;g10;w9,100;q1000,1001;";
    Checks.same("of 1 to 4 digits, 0s within", Checks.written(Checks.with(tens)), tens);
    Checks.same("no HITS, PARTICLES", Checks.written(Checks.with("p1,1,1;r7;h0,5,5;")), "r7;s1,10,10,3;g20;w0,999;q100,50;");
    TrackVotes y = Checks.scene();
    Checks.same("dead ones, too; no TRIGGER", Checks.written(y), "r100;r200;r300;r400;s1,10,10,3;g20;w0,999;q100,50;");
    Checks.due("no DEED", y.is(14), 5);
    Checks.due("the tape is left", y.is(15), 0);
    y.need(8);
    Checks.same("as it is now", Checks.written(y), "r100;r200;r300;r400;s1,10,10,8;g20;w0,999;q100,50;");
  }

  private static void octet() {
    Checks.says("Byte k of what was written latest. NONE: there is none.");
    TrackVotes x = new TrackVotes();
    Checks.due("nothing was written", x.octet(0), -1);
    Checks.text(x, "r999;");
    Checks.due("nothing was written", x.octet(0), -1);
    Checks.due("write()", x.write(), 35);
    Checks.due("the first", x.octet(0), 'r');
    Checks.due("the last", x.octet(34), ';');
    Checks.due("octet(35)", x.octet(35), -1);
    Checks.due("octet(-1)", x.octet(-1), -1);
    for (int k : FAR) Checks.due("octet(" + k + ")", x.octet(k), -1);
    x.undo();
    Checks.due("what was written stays", x.octet(0), 'r');
    Checks.due("what was written stays", x.octet(34), ';');
    Checks.due("less is written", x.write(), 30);
    Checks.due("the latest", x.octet(0), 's');
    Checks.due("no more of the one ahead", x.octet(30), -1);
    Checks.due("its last", x.octet(29), ';');
  }

  // ---- what changes nothing

  private static void refusedCalls() {
    Checks.says("NONE, and nothing is done");
    Checks.changesNothing("end(-1)", x -> Checks.due("end", x.end(-1), -1));
    Checks.changesNothing("end(1)", x -> Checks.due("end", x.end(1), -1));
    Checks.says("NONE: no such LAYER, Y, TIME (0 to 999), no room.");
    int[][] bad = {{-1, 0, 0}, {4, 0, 0}, {0, -10000, 0}, {0, 10000, 0}, {0, 0, -1}, {0, 0, 1000}};
    for (int[] b : bad) Checks.changesNothing("add", x -> Checks.due("add", x.add(b[0], b[1], b[2]), -1));
    Checks.says("NONE: no such one, it is struck.");
    for (int h : new int[] {-1, 9, 10}) Checks.changesNothing("strike(" + h + ")", x -> Checks.due("strike", x.strike(h), -1));
    Checks.says("NONE: no such one.");
    for (int l : new int[] {-1, 4}) Checks.changesNothing("dead(" + l + ")", x -> Checks.due("dead", x.dead(l), -1));
    Checks.says("NEED becomes n (2 to 8): what it was. NONE for others.");
    for (int n : new int[] {1, 9}) Checks.changesNothing("need(" + n + ")", x -> Checks.due("need", x.need(n), -1));
    Checks.says("ALIGNED by -999 to 999: how many HITS are. NONE for others.");
    for (int by : new int[] {-1000, 1000}) Checks.changesNothing("align by " + by, x -> Checks.due("align", x.align(0, by), -1));
    for (int l : new int[] {-1, 4}) Checks.changesNothing("align of " + l, x -> Checks.due("align", x.align(l, 1), -1));
    Checks.says("Done one by one till one is refused.");
    for (String act : new String[] {"h4,0,0;", "x9;", "d4;", "n9;"}) {
      Checks.changesNothing("acts " + act, x -> Checks.due("acts", Checks.acts(x, act + "n2;"), 0));
    }
    Checks.says("The latest DEED is taken back: how many still can be. NONE: none.");
    TrackVotes y = new TrackVotes();
    y.keep(0);
    Checks.due("undo()", y.undo(), -1);
    Checks.same("undo() of none", Checks.all(y), Checks.all(new TrackVotes()));
  }

  /** Calls that only ask, asked with all that is in and out of their bounds. */
  private static void askingChangesNothing() {
    Checks.says("Nothing is promised beyond the answers and state changes described above");
    String before = Checks.all(Checks.scene());
    for (int part = 0; part < 5; part++) {
      TrackVotes x = Checks.scene();
      for (int a = -1; a < 5; a++) askPart(x, part, a);
      Checks.same("asking", Checks.all(x), before);
    }
  }

  private static void askPart(TrackVotes x, int part, int a) {
    switch (part) {
      case 0: x.is(a); x.fault(); x.ended(); x.many(a); x.thing('n' + a); x.worth(a); x.bestNeed(a); x.missing(a); x.octet(a); x.yes(); x.work(); break;
      case 1: for (int b = -1; b < 3; b++) { x.layer(a, b); x.hit(a, b); x.particle(a, b); x.track(a, b); x.of(a, b); x.fit(a, b); } break;
      case 2: for (int b = -1; b < 3; b++) { x.vertex(a, b); x.predicted(a, b); x.nearest(a, b); x.offset(a, b); x.ghost(a, b); x.window(a, b); } break;
      case 3: for (int b = -1; b < 3; b++) { x.lift(a, b, b); x.votes(a, b, b); x.cross(a, b, 0); x.queue(1, a, 1, b, 0); x.workers(1, a, b); } break;
      default: x.keep(1 + a / 5); x.write(); x.octet(a); break;
    }
  }

  private static void twoObjects() {
    Checks.says("TrackVotes(): No LAYERS.");
    TrackVotes x = new TrackVotes();
    TrackVotes y = new TrackVotes();
    Checks.text(x, "r1;g5;w1,2;s0,0,1,2;");
    x.feed(1, 1, 1, 1, 1);
    x.write();
    Checks.same("the other is new", Checks.all(y), Checks.all(new TrackVotes()));
    Checks.due("its tape", y.is(15), 0);
    Checks.due("what it wrote", y.octet(0), -1);
    int[] first = {1, 10, 10, 3, 20, 0, 999, 100, 50};
    for (int i = 0; i < 9; i++) Checks.due("a later one's SETTINGS", new TrackVotes().is(5 + i), first[i]);
  }
}
