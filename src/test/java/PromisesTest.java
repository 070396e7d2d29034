/** Each promise of the document by its number: ordinary inputs, edges, wrong inputs. */
public final class PromisesTest {
  private static int wrong = 0;
  private static int asked = 0;
  private static int promise = 0;

  /** Two particles over four layers, and one hit that nobody left. */
  private static final String TWO = "r100;r200;r300;r400;p0,5,0;p500,-3,0;h1,100,5;";
  /** Two layers, bends and slopes off, cells of 10, NEED 2. */
  private static final String FLAT = "s0,0,10,2;r100;r300;";

  private static void due(String call, long got, long want) {
    asked++;
    if (got != want) {
      wrong++;
      System.out.println("promise " + promise + ": " + call + " answered " + got + ", due is " + want);
    }
  }

  private static void due(String call, boolean got, boolean want) {
    due(call, got ? 1 : 0, want ? 1 : 0);
  }

  private static void feedAll(TrackVotes x, String text) {
    x.end(0);
    for (int i = 0; i < text.length(); i += 20) {
      int[] words = new int[5];
      for (int j = 0; j < 20 && i + j < text.length(); j++) {
        words[j / 4] |= (text.charAt(i + j) & 255) << (24 - 8 * (j % 4));
      }
      x.feed(words[0], words[1], words[2], words[3], words[4]);
    }
    due("end of " + text, x.end(text.length()), text.length());
  }

  private static TrackVotes with(String text) {
    TrackVotes x = new TrackVotes();
    feedAll(x, text);
    if (x.text() < 0) {
      wrong++;
      System.out.println("promise " + promise + ": a fault at " + x.fault() + " in " + text);
    }
    return x;
  }

  private static int text(TrackVotes x, String text) {
    feedAll(x, text);
    return x.text();
  }

  private static int trigger(TrackVotes x, String text) {
    feedAll(x, text);
    return x.trigger();
  }

  private static int acts(TrackVotes x, String text) {
    feedAll(x, text);
    return x.acts();
  }

  private static void textFault(TrackVotes x, String text, int at) {
    due("text " + text, text(x, text), -1);
    due("fault of " + text, x.fault(), at);
  }

  private static void triggerFault(TrackVotes x, String text, int at) {
    due("trigger " + text, trigger(x, text), -1);
    due("fault of " + text, x.fault(), at);
  }

  private static void actsFault(TrackVotes x, String text, int at) {
    due("acts " + text, acts(x, text), -1);
    due("fault of " + text, x.fault(), at);
  }

  private static int yes(TrackVotes x, String text) {
    if (trigger(x, text) < 0) return -1;
    return x.yes();
  }

  public static void main(String[] args) {
    newObject();
    tape();
    text();
    textFaults();
    trigger();
    triggerFaults();
    acts();
    whatThereIs();
    particles();
    manyParticles();
    liftsAndVotes();
    tracks();
    tracksInOrder();
    fits();
    vertices();
    yesAndThings();
    queues();
    worthAndNeed();
    deeds();
    crossAndPredicted();
    nearestAndOffset();
    align();
    ghosts();
    windows();
    undo();
    keep();
    write();
    wildArguments();
    System.out.println(wrong == 0 ? "PromisesTest: all " + asked + " answers are as due" : wrong + " answers are not as due");
    if (wrong != 0) System.exit(1);
  }

  private static void newObject() {
    promise = 1;
    TrackVotes x = new TrackVotes();
    int[] first = {0, 0, 0, 0, 0, 1, 10, 10, 3, 20, 0, 999, 100, 50, 0, 0};
    for (int i = 0; i < first.length; i++) due("is(" + i + ")", x.is(i), first[i]);
    due("NONE", TrackVotes.NONE, -1);
    due("octet(0)", x.octet(0), -1);
    due("fault()", x.fault(), -1);
    due("ended()", x.ended(), -1);
    due("yes()", x.yes(), 0);
  }

  private static void tape() {
    promise = 2;
    TrackVotes x = new TrackVotes();
    for (int i = 1; i <= 25; i++) due("feed", x.feed(i, 0, 0, 0, 0), 20 * i);
    due("feed beyond 500", x.feed(0, 0, 0, 0, 0), -1);
    due("bytes", x.is(15), 500);
    due("end(481)", x.end(481), 481);
    due("feed to 501", x.feed(0, 0, 0, 0, 0), -1);
    due("end(480)", x.end(480), 480);
    due("feed to 500", x.feed(0, 0, 0, 0, 0), 500);
    promise = 3;
    due("end(-1)", x.end(-1), -1);
    due("end(501)", x.end(501), -1);
    due("bytes", x.is(15), 500);
    due("end(500)", x.end(500), 500);
    due("end(3)", x.end(3), 3);
    due("end(4)", x.end(4), -1);
    due("bytes", x.is(15), 3);
    due("end(0)", x.end(0), 0);
    promise = 2;
    x.feed(('g' << 24) | ('7' << 16) | (';' << 8) | 'g', ('8' << 24) | (';' << 16), 0, 0, 0);
    x.end(6);
    due("highest byte first", x.text(), 2);
    due("GAP", x.is(9), 8);
  }

  private static void text() {
    promise = 4;
    TrackVotes x = new TrackVotes();
    due("an empty text", x.text(), 0);
    due("its deed", x.is(14), 1);
    due("all items", text(x, "r1;r999;h0,-9999,0;h1,9999,999;p0,0,0;s3,20,500,8;g999;w5,5;q9999,9999;"), 9);
    due("the tape is empty", x.is(15), 0);
    due("fault()", x.fault(), -1);
    int[] now = {2, 2, 4, 0, 1, 3, 20, 500, 8, 999, 5, 5, 9999, 9999, 2};
    for (int i = 0; i < now.length; i++) due("is(" + i + ")", x.is(i), now[i]);
    due("numbers with 0 ahead", text(x, "g0012;w-0,0003;"), 2);
    due("GAP", x.is(9), 12);
    due("TO", x.is(11), 3);
    due("least settings", text(x, "s0,0,1,2;g0;w0,0;q1,0;"), 4);
    for (int i = 5; i <= 13; i++) due("is(" + i + ")", x.is(i), new int[] {0, 0, 1, 2, 0, 0, 0, 1, 0}[i - 5]);
    due("FROM above the old TO", text(x, "w500,600;"), 1);
    due("what was stays", x.is(0), 2);
    due("HITS stay", x.is(2), 4);
    TrackVotes y = with("r10;");
    due("a fault behind good items", text(y, "r20;g5;r20;"), -1);
    due("nothing comes of it", y.is(0), 1);
    due("nor a setting", y.is(9), 20);
    due("no deed", y.is(14), 1);
    due("the tape is empty", y.is(15), 0);
    due("a layer of the same text", text(y, "r20;h1,5,5;"), 2);
    due("its hit", y.hit(0, 0), 1);
  }

  private static void textFaults() {
    promise = 7;
    TrackVotes x = with("r100;r200;");
    textFault(x, "r200;", 1);
    textFault(x, "r0;", 1);
    textFault(x, "r1000;", 1);
    textFault(x, "r10000;", 5);
    textFault(x, "r-10000;", 6);
    textFault(x, "r;", 1);
    textFault(x, "r-;", 2);
    textFault(x, "r--1;", 2);
    textFault(x, "r", 1);
    textFault(x, "r300", 4);
    textFault(x, "r300,", 4);
    textFault(x, " r300;", 0);
    textFault(x, "r300; ", 5);
    textFault(x, "R300;", 0);
    textFault(x, "x0;", 0);
    textFault(x, "r300;h2,0,0;h3,0,0;", 13);
    textFault(x, "h-1,0,0;", 1);
    textFault(x, "h0,0,1000;", 5);
    textFault(x, "h0,0,-1;", 5);
    textFault(x, "h0,0;", 4);
    textFault(x, "h0,0,0,", 6);
    textFault(x, "p0,51,0;", 3);
    textFault(x, "p0,-51,0;", 3);
    textFault(x, "p0,0,6;", 5);
    textFault(x, "p0,0,-6;", 5);
    textFault(x, "s4,0,1,2;", 1);
    textFault(x, "s0,21,1,2;", 3);
    textFault(x, "s0,0,0,2;", 5);
    textFault(x, "s0,0,501,2;", 5);
    textFault(x, "s0,0,1,1;", 7);
    textFault(x, "s0,0,1,9;", 7);
    textFault(x, "g1000;", 1);
    textFault(x, "w10,9;", 4);
    textFault(x, "w10,1000;", 4);
    textFault(x, "q0,0;", 1);
    textFault(x, "q1,-1;", 3);
    textFault(x, "g-1x", 1);
    textFault(x, "" + (char) 233, 0);
    due("a good text", text(x, "g1;"), 1);
    due("fault() then", x.fault(), -1);
    TrackVotes y = with("r1;r2;r3;r4;r5;r6;r7;");
    textFault(y, "r8;r9;", 3);
    textFault(y, "r8;rx", 3);
    textFault(new TrackVotes(), "r0;", 1);
    TrackVotes z = with("r100;");
    for (int i = 0; i < 59; i++) z.add(0, 0, 0);
    textFault(z, "h0,0,0;h0,0,0;", 7);
    textFault(z, "h0,0,0;h9,0,0;", 7);
    textFault(z, "g5;p0,0,0;p0,0,0;", 10);
    due("nothing came", z.is(2), 59);
    due("a particle with no hit needs no room", text(z, "h0,0,0;p9999,50,0;g3;"), 3);
    due("HITS", z.is(2), 60);
    due("PARTICLES", z.is(4), 1);
    TrackVotes w = with("r100;r200;r300;");
    for (int i = 0; i < 58; i++) w.add(0, 0, 0);
    textFault(w, "p0,0,0;", 0);
    due("none of its hits", w.is(2), 58);
    due("two hits of three", text(w, "p9950,20,0;"), 1);
    due("HITS", w.is(2), 60);
    TrackVotes v = new TrackVotes();
    due("12 particles", text(v, "p0,0,0;".repeat(12)), 12);
    textFault(v, "p0,0,0;", 0);
    textFault(v, "p0,51,0;", 0);
    feedAll(v, "q");
    due("a trigger's fault", v.trigger(), -1);
    due("is the latest", v.fault(), 0);
    due("acts that are well", acts(v, ""), 0);
    due("fault() then", v.fault(), -1);
  }

  private static void trigger() {
    promise = 5;
    TrackVotes x = with(TWO);
    due("things", trigger(x, "n=2&h+1*2>3|!(v=5)"), 8);
    due("the tape is empty", x.is(15), 0);
    due("its deed", x.is(14), 2);
    due("yes", x.yes(), 1);
    triggerFault(x, "n=", 2);
    due("the tape is empty", x.is(15), 0);
    due("no deed", x.is(14), 2);
    due("the old one stays", x.yes(), 1);
    due("an empty one", trigger(x, ""), 0);
    due("none then", x.yes(), 0);
    due("its deed", x.is(14), 3);
    due("30 things", trigger(x, "1" + "+1".repeat(28) + "=n"), 30);
    due("six deep", trigger(x, "!!!!!!n=1"), 2);
    due("six deep", trigger(x, "(((!!(n=1)))|!!!!!!1=1)".replace("!!!!!!1", "!!!!!1")), 4);
  }

  private static void triggerFaults() {
    promise = 7;
    TrackVotes x = with(TWO);
    triggerFault(x, "n", 1);
    triggerFault(x, "x=1", 0);
    triggerFault(x, "n1", 1);
    triggerFault(x, "12345=1", 4);
    triggerFault(x, "n=12345", 6);
    triggerFault(x, "n==1", 2);
    triggerFault(x, "n=1=1", 3);
    triggerFault(x, "n=-1", 2);
    triggerFault(x, "(n)=1", 2);
    triggerFault(x, "(n=1", 4);
    triggerFault(x, "n=1)", 3);
    triggerFault(x, "n=1&", 4);
    triggerFault(x, "n=1||n=1", 4);
    triggerFault(x, "n=1 ", 3);
    triggerFault(x, "n+=1", 2);
    triggerFault(x, "n/2=1", 1);
    triggerFault(x, "()", 1);
    triggerFault(x, "!", 1);
    triggerFault(x, "!!!!!!!n=1", 6);
    triggerFault(x, "(!(!(!(n=1", 6);
    triggerFault(x, "1" + "+1".repeat(29) + "=n", 60);
    triggerFault(x, "1=1&".repeat(15) + "n=1", 60);
    triggerFault(x, "1=1&".repeat(15) + "!!5=1", 62);
  }

  private static void acts() {
    promise = 6;
    TrackVotes x = with(TWO);
    due("acts()", acts(x, ""), 0);
    due("four acts", acts(x, "h0,7,7;x0;d3;n4;"), 4);
    due("the tape is empty", x.is(15), 0);
    due("the hit", x.hit(9, 1), 7);
    due("struck", x.hit(0, 2), -1);
    due("dead", x.layer(3, 1), 0);
    due("NEED", x.is(8), 4);
    promise = 39;
    due("each is a deed", x.is(14), 5);
    promise = 8;
    due("ended()", x.ended(), -1);
    due("till one is refused", acts(x, "n5;x0;n6;"), 1);
    due("ended()", x.ended(), 1);
    due("what was done stays", x.is(8), 5);
    actsFault(x, "n6;x", 4);
    due("ended() stays", x.ended(), 1);
    due("nothing is done", x.is(8), 5);
    due("the first refused", acts(x, "d-1;n3;"), 0);
    due("ended()", x.ended(), 0);
    due("all are done", acts(x, "n3;"), 1);
    due("ended()", x.ended(), -1);
    promise = 6;
    due("any numbers, refused", acts(x, "h-9999,9999,9999;"), 0);
    due("n, refused", acts(x, "n9;"), 0);
    due("20 acts", acts(x, "n3;".repeat(20)), 20);
    due("8 deeds", x.is(14), 8);
    actsFault(x, "n3;".repeat(21), 60);
    actsFault(x, "n3;".repeat(20) + "!", 60);
    actsFault(x, "k", 0);
    actsFault(x, "g5;", 0);
    actsFault(x, "h0,1;", 4);
    actsFault(x, "n;", 1);
    actsFault(x, "n12345;", 5);
    actsFault(x, "n3", 2);
    actsFault(x, "x-;", 2);
    actsFault(x, "n3; ", 3);
    due("the tape is empty", x.is(15), 0);
  }

  private static void whatThereIs() {
    promise = 9;
    TrackVotes x = with(TWO);
    int[] now = {4, 4, 9, 9, 2, 1, 10, 10, 3, 20, 0, 999, 100, 50, 1, 0};
    for (int i = 0; i < now.length; i++) due("is(" + i + ")", x.is(i), now[i]);
    due("is(-1)", x.is(-1), -1);
    due("is(16)", x.is(16), -1);
    x.dead(1);
    due("alive", x.is(1), 3);
    due("that COUNT", x.is(3), 6);
    text(x, "w20,999;");
    due("by FROM", x.is(3), 4);
    text(x, "w20,39;");
    due("by TO", x.is(3), 2);
    promise = 10;
    due("layer(3, 0)", x.layer(3, 0), 400);
    due("layer(1, 1)", x.layer(1, 1), 0);
    due("layer(0, 1)", x.layer(0, 1), 1);
    due("layer(1, 2)", x.layer(1, 2), 0);
    due("layer(2, 2)", x.layer(2, 2), 2);
    due("layer(3, 2)", x.layer(3, 2), 0);
    due("layer(4, 0)", x.layer(4, 0), -1);
    due("layer(-1, 0)", x.layer(-1, 0), -1);
    due("layer(0, 3)", x.layer(0, 3), -1);
    promise = 11;
    TrackVotes y = with(TWO);
    due("hit(4, 0)", y.hit(4, 0), 0);
    due("hit(4, 1)", y.hit(4, 1), 497);
    due("hit(7, 2)", y.hit(7, 2), 40);
    due("hit(4, 3)", y.hit(4, 3), 1);
    due("hit(8, 3)", y.hit(8, 3), -2);
    due("hit(8, 4)", y.hit(8, 4), 1);
    due("hit(0, 5)", y.hit(0, 5), 1);
    due("hit(8, 5)", y.hit(8, 5), -2);
    y.strike(8);
    due("hit(8, 2)", y.hit(8, 2), -1);
    due("hit(8, 4)", y.hit(8, 4), 0);
    due("hit(9, 0)", y.hit(9, 0), -100000);
    due("hit(-1, 0)", y.hit(-1, 0), -100000);
    due("hit(0, 6)", y.hit(0, 6), -100000);
    due("hit(0, -1)", y.hit(0, -1), -100000);
  }

  private static void particles() {
    promise = 4;
    TrackVotes x = with("r15;r150;r999;p-10,-3,-1;p9990,50,5;");
    due("floored lifts", x.hit(0, 1), -10 - 1 - 1);
    due("floored lifts", x.hit(1, 1), -10 - 5 - 3);
    due("floored lifts", x.hit(2, 1), -10 - 30 - 100);
    due("X by 10 cut", x.hit(0, 2), 1);
    due("X by 10 cut", x.hit(2, 2), 99);
    due("only where Y can be", x.is(2), 4);
    due("of the second", x.hit(3, 1), 9997);
    TrackVotes y = with("r100;r200;");
    y.dead(0);
    text(y, "p5,0,0;r300;");
    due("dead layers too, those there are", y.is(2), 2);
    promise = 12;
    due("START", x.particle(0, 0), -10);
    due("SLOPE", x.particle(0, 1), -3);
    due("BEND", x.particle(1, 2), 5);
    due("HITS", x.particle(1, 3), 1);
    due("HITS that COUNT", y.particle(0, 3), 1);
    due("no such one", x.particle(2, 0), -100000);
    due("no such one", x.particle(-1, 0), -100000);
    due("no such thing", x.particle(0, 5), -100000);
    due("no such thing", x.particle(0, -1), -100000);
    TrackVotes z = with(TWO);
    due("FOUND", z.particle(0, 4), 1);
    due("FOUND", z.particle(1, 4), 0);
    TrackVotes w = with("s0,0,10,3;r10;r20;r30;r40;r50;r60;p0,17,0;");
    // It leaves 1, 3, 5, 6, 8, 10: five of its hits are in one cell.
    due("one track", w.many(0), 1);
    due("FOUND", w.particle(0, 4), 0);
    text(w, "s0,0,2,2;");
    // In cells of 2 each is alone: there is no track.
    due("no tracks", w.many(0), 0);
    due("FOUND", w.particle(0, 4), -2);
    TrackVotes v = with("s0,0,10,2;r100;r200;r300;r400;p0,8,0;");
    // 8, 16, 24, 32: each alone; two more hits make a track with one of its four, less than half.
    v.add(1, 9, 0);
    due("one track", v.many(0), 1);
    due("of one of its hits", v.track(0, 7), 1);
    due("less than half", v.particle(0, 4), -2);
    v.strike(1);
    v.strike(2);
    due("half of those that COUNT", v.particle(0, 4), 0);
  }

  private static void manyParticles() {
    promise = 12;
    StringBuilder all = new StringBuilder("s0,0,10,2;r100;r200;");
    for (int p = 0; p < 12; p++) all.append("p").append(5 + 10 * p).append(",0,0;");
    TrackVotes x = with(all.toString());
    for (int i = 0; i < 18; i++) {
      x.add(0, -5 - 10 * i, 0);
      x.add(1, -5 - 10 * i, 0);
    }
    due("20 tracks, the lesser b first", x.many(0), 20);
    due("FOUND of the second particle", x.particle(1, 4), 19);
    due("FOUND of the third", x.particle(2, 4), -2);
    due("PURE", x.track(19, 7), 2);
    due("whose", x.track(19, 8), 1);
    TrackVotes y = with(all.toString());
    for (int p = 0; p < 12; p++) {
      due("FOUND", y.particle(p, 4), p);
      due("PURE", y.track(p, 7), 2);
      due("whose", y.track(p, 8), p);
    }
    due("all are FOUND", y.bestNeed(1), 12);
  }

  private static void liftsAndVotes() {
    promise = 13;
    TrackVotes x = with("r15;r999;");
    due("lift", x.lift(0, 99, 99), 14 + 2);
    due("lift", x.lift(0, -1, 0), -1);
    due("lift", x.lift(0, 0, -1), -1);
    due("both floored", x.lift(0, -1, -1), -2);
    due("lift", x.lift(1, -99, -99), -990 - 9881);
    due("slope 100", x.lift(0, 100, 0), -100000);
    due("slope -100", x.lift(0, -100, 0), -100000);
    due("bend 100", x.lift(0, 0, 100), -100000);
    due("bend -100", x.lift(0, 0, -100), -100000);
    due("no layer", x.lift(2, 0, 0), -100000);
    due("no layer", x.lift(-1, 0, 0), -100000);
    promise = 14;
    TrackVotes y = with(TWO);
    due("votes(0, 5, 0)", y.votes(0, 5, 0), 4);
    due("votes(0, 5, 9)", y.votes(0, 5, 9), 1);
    due("votes(0, -3, 50)", y.votes(0, -3, 50), 4);
    due("votes(0, 10, 1)", y.votes(0, 10, 1), 0);
    due("votes(1, 10, 0)", y.votes(1, 10, 0), 0);
    due("beyond BENDS", y.votes(2, 0, 0), -1);
    due("beyond BENDS", y.votes(-2, 0, 0), -1);
    due("beyond SLOPES", y.votes(0, 11, 0), -1);
    due("beyond SLOPES", y.votes(0, -11, 0), -1);
    due("a far b", y.votes(0, 0, 2147483647), 0);
    y.dead(0);
    due("by HITS that COUNT", y.votes(0, 5, 0), 3);
    TrackVotes z = with("s0,0,10,2;r100;h0,-1,0;h0,-10,0;h0,-11,0;h0,9,0;");
    due("floored", z.votes(0, 0, -1), 1);
    due("floored", z.votes(0, 0, -2), 1);
    due("floored", z.votes(0, 0, 0), 1);
  }

  private static void tracks() {
    promise = 15;
    TrackVotes x = with(TWO);
    int[] many = {2, 38, 2, 1, 4, 1};
    for (int i = 0; i < many.length; i++) due("many(" + i + ")", x.many(i), many[i]);
    due("many(-1)", x.many(-1), -1);
    due("many(6)", x.many(6), -1);
    promise = 16;
    int[] first = {0, -1, 49, 4, 1, 500, 0, 4, 1};
    for (int i = 0; i < first.length; i++) due("track(0, " + i + ")", x.track(0, i), first[i]);
    due("track(2, 0)", x.track(2, 0), -100000);
    due("track(-1, 0)", x.track(-1, 0), -100000);
    due("track(0, 9)", x.track(0, 9), -100000);
    due("track(0, -1)", x.track(0, -1), -100000);
    promise = 17;
    due("of(0, 0)", x.of(0, 0), 4);
    due("of(1, 2)", x.of(1, 2), 2);
    due("of(0, 4)", x.of(0, 4), -1);
    due("of(0, -1)", x.of(0, -1), -1);
    due("of(2, 0)", x.of(2, 0), -1);
    due("of(-1, 0)", x.of(-1, 0), -1);
    x.dead(0);
    due("of a dead layer", x.of(0, 0), -2);
    promise = 30;
    TrackVotes y = with(FLAT + "h0,4,0;h1,5,0;");
    due("NEED 2", y.many(0), 1);
    y.need(3);
    due("NEED 3", y.many(0), 0);
    due("no votes", y.many(4), 0);
    due("no vertex", y.many(5), 0);
    due("its hits are of none", y.hit(0, 5), -2);
    due("HITS of no TRACK", y.many(3), 2);
  }

  private static void tracksInOrder() {
    promise = 16;
    // Both hits vote for one cell with slope 0 and with slopes -1, 1, 2 ..: slope 0 is least.
    TrackVotes x = with("s0,3,10,2;r100;r200;h0,5,0;h1,5,0;");
    due("the least |t|", x.track(0, 1), 0);
    // Only slopes of 2 and more join them, 2 among them.
    TrackVotes y = with("s0,3,1,2;r100;r200;h0,0,0;h1,2,0;");
    due("slope 2", y.track(0, 1), 2);
    due("b", y.track(0, 2), -2);
    // Slope 0 has 2 votes; slope -1 (5, 7, 7) and slope 1 (3, 3, 1) have 3.
    TrackVotes z = with("s0,1,5,2;r100;r200;r300;h0,4,0;h1,5,0;h2,4,0;");
    due("most votes first", z.track(0, 3), 3);
    due("the lesser t", z.track(0, 1), -1);
    due("its b", z.track(0, 2), 1);
    // Bend 1 joins 0 and 8, bend -1 joins 0 and -8.
    TrackVotes w = with("s1,0,1,2;r100;r300;h0,0,0;h1,8,0;h1,-8,0;");
    due("the lesser k", w.track(0, 0), -1);
    due("its b", w.track(0, 2), 1);
    due("its hit", w.of(0, 1), 2);
    // Bend 1 joins 0 and 8, and so does slope 4.
    TrackVotes q = with("s1,4,1,2;r100;r300;h0,0,0;h1,8,0;");
    due("|k| ahead of |t|", q.track(0, 0), 0);
    due("its slope", q.track(0, 1), 4);
    // Two cells with like votes in one shape: the lesser b.
    TrackVotes v = with("s0,0,10,2;r100;r200;h0,55,0;h1,56,0;h0,5,0;h1,4,0;");
    due("the lesser b", v.track(0, 2), 0);
    due("then the next", v.track(1, 2), 5);
    // Nearest to the middle: b times 10 and 5.
    TrackVotes u = with(FLAT + "h0,1,0;h0,6,0;h0,4,0;h1,9,0;h1,0,0;");
    due("6 is as near as 4 and ahead", u.of(0, 0), 1);
    due("9 is nearer to 5 than 0", u.of(0, 1), 3);
    due("the others make another", u.of(1, 0), 2);
    due("the others make another", u.of(1, 1), 4);
    due("the same cell again", u.track(1, 2), 0);
    // Half of a width of 5 is cut to 2.
    TrackVotes t = with("s0,0,5,2;r100;r300;h0,3,0;h0,2,0;h1,0,0;");
    due("2 is the middle", t.of(0, 0), 1);
    // 20 at most.
    TrackVotes s = with("s0,0,1,2;r100;r300;");
    for (int i = 0; i < 30; i++) {
      s.add(0, i, 0);
      s.add(1, i, 0);
    }
    due("20 at most", s.many(0), 20);
    due("the rest are ghosts", s.many(1), 10);
    due("no 21st", s.track(20, 0), -100000);
    due("the 20th", s.track(19, 2), 19);
    due("HITS of none", s.many(3), 20);
    // Two layers have more votes than many hits on one.
    TrackVotes r = with(FLAT + "h0,21,0;h0,22,0;h0,23,0;h0,1,0;h1,1,0;");
    due("layers vote, not hits", r.many(0), 1);
    due("its cell", r.track(0, 2), 0);
  }

  private static void fits() {
    promise = 18;
    TrackVotes x = with(FLAT + "h0,4,0;h0,6,0;h1,5,0;h1,14,0;g3;");
    long[] fit = {7, 2, 1, 200, 0, 1};
    for (int i = 0; i < fit.length; i++) due("fit(0, " + i + ")", x.fit(0, i), fit[i]);
    due("A floored", x.track(0, 5), 3);
    due("fit(0, 6)", x.fit(0, 6), -1000000000000L);
    due("fit(0, -1)", x.fit(0, -1), -1000000000000L);
    due("fit(1, 0)", x.fit(1, 0), -1000000000000L);
    due("fit(-1, 0)", x.fit(-1, 0), -1000000000000L);
    // 0, 3, 0 at 1, 2, 3: the line is at 1, off by -1, 2, -1.
    TrackVotes y = with("s0,0,10,3;r1;r2;r3;h0,0,0;h1,3,0;h2,0,0;");
    long[] flat = {1, 1, 0, 1, 6, 1};
    for (int i = 0; i < flat.length; i++) due("fit(0, " + i + ")", y.fit(0, i), flat[i]);
    due("SMEAR", y.track(0, 6), 2);
    // 0, 1, 0: the line is at 1/3, off 6/9.
    TrackVotes z = with("s0,0,10,3;r1;r2;r3;h0,0,0;h1,1,0;h2,0,0;");
    long[] third = {1, 3, 0, 1, 2, 3};
    for (int i = 0; i < third.length; i++) due("fit(0, " + i + ")", z.fit(0, i), third[i]);
    due("SMEAR floored", z.track(0, 6), 0);
    due("SMEAR of two", with("s0,0,10,2;r1;r2;h0,0,0;h1,1,0;").track(0, 6), 0);
    // Below zero: -1, -2 at 2, 4.
    TrackVotes w = with("s0,0,10,2;r2;r5;h0,-1,0;h1,-3,0;");
    long[] below = {1, 3, -2, 3, 0, 1};
    for (int i = 0; i < below.length; i++) due("fit(0, " + i + ")", w.fit(0, i), below[i]);
    due("A floored", w.track(0, 5), 0);
    TrackVotes u = with("s0,0,10,2;r2;r5;h0,-3,0;h1,-1,0;");
    due("A floored below 0", u.track(0, 5), -5);
    // With a bend: 1, 4, 9 and 16 at 100 .. 400 lie on k 1, nothing is left.
    TrackVotes v = with("s1,0,1,4;r100;r200;r300;r400;p7,0,1;");
    due("its bend", v.track(0, 0), 1);
    long[] bent = {7, 1, 0, 1, 0, 1};
    for (int i = 0; i < bent.length; i++) due("fit(0, " + i + ")", v.fit(0, i), bent[i]);
    due("PREDICTED with its bend", v.predicted(0, 3), 23);
    due("SMEAR less the bend", v.track(0, 6), 0);
    promise = 16;
    TrackVotes t = with(FLAT + "p1,0,0;p2,0,0;h0,5,0;");
    due("PURE", t.track(0, 7), 1);
    due("the first such", t.track(0, 8), 1);
    due("hits of none", t.of(0, 0), 4);
    TrackVotes s = with("s0,0,10,2;r100;r200;h0,5,0;h1,5,0;");
    due("none did: PURE", s.track(0, 7), 0);
    due("none did", s.track(0, 8), -2);
    TrackVotes r = with("s0,0,10,2;r100;p5,0,0;r200;p1,0,0;");
    due("two left one each", r.track(0, 7), 1);
    due("the first of them", r.track(0, 8), 0);
  }

  private static void vertices() {
    promise = 19;
    TrackVotes x = with("s0,0,10,2;r100;r200;p5,0,0;p25,0,0;p46,0,0;p-14,0,0;");
    due("four tracks", x.many(0), 4);
    // Starts -14, 5, 25, 46: gaps 19, 20, 21.
    due("VERTICES", x.many(2), 2);
    due("TRACKS of the first", x.vertex(0, 0), 3);
    due("PLACE of the first", x.vertex(0, 1), 5);
    due("TRACKS of the second", x.vertex(1, 0), 1);
    due("PLACE of the second", x.vertex(1, 1), 46);
    due("the greatest", x.many(5), 3);
    due("no third", x.vertex(2, 0), -100000);
    due("none below 0", x.vertex(-1, 0), -100000);
    due("no such thing", x.vertex(0, 2), -100000);
    due("no such thing", x.vertex(0, -1), -100000);
    promise = 16;
    int seen = 0;
    for (int i = 0; i < 4; i++) seen += x.track(i, 4) == (x.track(i, 5) == 46 ? 1 : 0) ? 1 : 0;
    due("each track's VERTEX", seen, 4);
    promise = 19;
    text(x, "g21;");
    due("one VERTEX", x.many(2), 1);
    due("PLACE floored", x.vertex(0, 1), 15);
    text(x, "g0;");
    due("four VERTICES", x.many(2), 4);
    TrackVotes y = with("s0,0,10,2;r100;r200;p-5,0,0;p-6,0,0;g0;p-5,0,0;");
    due("like starts", y.many(2), 2);
    due("the lower", y.vertex(0, 1), -6);
    due("both others", y.vertex(1, 0), 2);
    text(y, "g1;");
    due("the mean floored", y.vertex(0, 1), -6);
  }

  private static void yesAndThings() {
    promise = 21;
    TrackVotes x = with(TWO);
    int[] values = {2, 9, 2, 38, 4, 4, 1, 1};
    for (int i = 0; i < 8; i++) due("thing(" + "nhvgmluo".charAt(i) + ")", x.thing("nhvgmluo".charAt(i)), values[i]);
    due("no such letter", x.thing('x'), -1);
    due("no such letter", x.thing('N'), -1);
    due("no such letter", x.thing(-1), -1);
    due("no such letter", x.thing('n' + 256), -1);
    promise = 20;
    due("n=2", yes(x, "n=2"), 1);
    due("n<2", yes(x, "n<2"), 0);
    due("n>1", yes(x, "n>1"), 1);
    due("2>2", yes(x, "2>2"), 0);
    due("g-38=0", yes(x, "g-38=0"), 1);
    due("from the left", yes(x, "1+2*3=9"), 1);
    due("from the left", yes(x, "10-2-3=5"), 1);
    due("below 0", yes(x, "1-2<0"), 1);
    due("they go round", yes(x, "9999*9999*9999<0"), 9999 * 9999 * 9999 < 0 ? 1 : 0);
    due("they go round", yes(x, "8192*8192*64=0"), 1);
    due("& binds more", yes(x, "1=1|1=1&1=2"), 1);
    due("& binds more", yes(x, "(1=1|1=1)&1=2"), 0);
    due("! of one test", yes(x, "!1=2&1=2"), 0);
    due("! of a bracket", yes(x, "!(1=2&1=2)"), 1);
    due("!!", yes(x, "!!1=1"), 1);
    due("or", yes(x, "1=2|2=2|3=4"), 1);
    due("all letters", yes(x, "n+h+v+g+m+l+u+o=61"), 1);
    due("it is worked out anew", yes(x, "h=9"), 1);
    x.strike(0);
    due("it is worked out anew", x.yes(), 0);
    x.undo();
    due("it is worked out anew", x.yes(), 1);
  }

  private static void queues() {
    promise = 22;
    TrackVotes x = with(TWO);
    due("WORK", x.work(), 587);
    due("WORK of nothing", new TrackVotes().work(), 0);
    x.strike(8);
    due("WORK", x.work(), 8 * 63 + 20);
    x.undo();
    promise = 23;
    due("ticks 6", x.queue(1, 1, 1, 0, 3), 6);
    due("LOST", x.queue(3, 10, 1, 0, 0), 0);
    due("last", x.queue(3, 10, 1, 0, 3), 26);
    due("LOST", x.queue(3, 5, 1, 0, 0), 1);
    due("last", x.queue(3, 5, 1, 0, 3), 16);
    due("who ends in a tick is free", x.queue(9, 6, 1, 0, 0), 0);
    due("waits", x.queue(3, 5, 1, 1, 2), 1);
    due("last", x.queue(3, 5, 1, 1, 3), 18);
    due("most that wait", x.queue(9, 1, 2, 50, 2), 5);
    due("they wait no more", x.queue(3, 3, 2, 0, 2), 0);
    due("all but one are lost", x.queue(6, 1, 1, 0, 0), 5);
    due("the one that waits makes room", x.queue(7, 1, 1, 1, 0), 4);
    due("not LATE", x.queue(3, 5, 1, 1, 1), 0);
    text(x, "q100,7;");
    due("answered in 6, 7, 8", x.queue(3, 5, 1, 1, 1), 1);
    text(x, "q100,5;");
    due("all LATE", x.queue(3, 5, 1, 1, 1), 3);
    text(x, "q587,50;");
    due("one tick", x.queue(1, 1, 1, 0, 3), 1);
    text(x, "q586,50;");
    due("cut up", x.queue(1, 1, 1, 0, 3), 2);
    due("1 at least", new TrackVotes().queue(1, 1, 1, 0, 3), 1);
    text(x, "q1,50;");
    due("SPEED 1", x.queue(1, 1, 1, 0, 3), 587);
    text(x, "q586,50;");
    due("edges", x.queue(200, 999, 8, 50, 3), 199 * 999 + 2);
    int[][] out = {{0, 1, 1, 0, 0}, {201, 1, 1, 0, 0}, {1, 0, 1, 0, 0}, {1, 1000, 1, 0, 0}, {1, 1, 0, 0, 0},
        {1, 1, 9, 0, 0}, {1, 1, 1, -1, 0}, {1, 1, 1, 51, 0}, {1, 1, 1, 0, -1}, {1, 1, 1, 0, 4}};
    for (int[] o : out) due("queue out of its bounds", x.queue(o[0], o[1], o[2], o[3], o[4]), -1);
    promise = 24;
    text(x, "q100,50;");
    due("workers", x.workers(3, 1, 0), 3);
    due("workers", x.workers(1, 1, 0), 1);
    due("workers", x.workers(200, 1, 0), 6);
    due("workers with room to wait", x.workers(3, 1, 2), 1);
    text(x, "q100,10;");
    due("workers by LIMIT", x.workers(3, 1, 2), 2);
    text(x, "q100,9;");
    due("workers by LIMIT", x.workers(3, 1, 2), 3);
    text(x, "q100,5;");
    due("none", x.workers(3, 1, 0), -2);
    text(x, "q50,50;");
    due("none: 12 would do", x.workers(200, 1, 0), -2);
    text(x, "q74,50;");
    due("8 workers", x.workers(200, 1, 0), 8);
    text(x, "q73,50;");
    due("none: 9 would do", x.workers(200, 1, 0), -2);
    due("wrong n", x.workers(0, 1, 0), -1);
    due("wrong n", x.workers(201, 1, 0), -1);
    due("wrong period", x.workers(1, 0, 0), -1);
    due("wrong period", x.workers(1, 1000, 0), -1);
    due("wrong b", x.workers(1, 1, -1), -1);
    due("wrong b", x.workers(1, 1, 51), -1);
  }

  private static void worthAndNeed() {
    promise = 25;
    TrackVotes x = with(FLAT + "h0,4,0;h1,5,0;");
    due("all of it", x.worth(0), 1);
    due("all of it", x.worth(1), 1);
    due("no such one", x.worth(2), -100000);
    due("no such one", x.worth(-1), -100000);
    x.dead(0);
    due("dead as it is", x.worth(0), 0);
    due("no tracks as it is", x.worth(1), 0);
    TrackVotes y = with(TWO);
    for (int l = 0; l < 4; l++) due("three layers are enough", y.worth(l), 0);
    y.need(4);
    for (int l = 0; l < 4; l++) due("NEED 4", y.worth(l), 2);
    TrackVotes z = with("s0,0,10,2;r100;r200;r300;h0,1,0;h1,2,0;h2,3,0;h2,22,0;h1,23,0;");
    due("both tracks have another two", z.worth(0), 0);
    due("a track is lost", z.worth(2), 1);
    // Slope 1 joins 2, 3, 4; without the last layer 3 and 3, then 2 and 1 are joined.
    TrackVotes u = with("s0,1,1,2;r100;r200;r300;h1,1,0;h0,2,0;h0,3,0;h2,4,0;h1,3,0;");
    due("below 0", u.worth(2), -1);
    promise = 26;
    due("no particles", new TrackVotes().bestNeed(0), 2);
    due("FOUND", new TrackVotes().bestNeed(1), 0);
    TrackVotes w = with("s0,0,10,2;r100;r200;r300;p5,0,0;h0,25,0;h1,25,0;");
    due("3 leaves out what no particle left", w.bestNeed(0), 3);
    due("FOUND", w.bestNeed(1), 1);
    due("of none", w.bestNeed(2), 0);
    w.add(2, 25, 0);
    due("like ones: the least", w.bestNeed(0), 2);
    due("FOUND", w.bestNeed(1), 1);
    due("of none", w.bestNeed(2), 1);
    due("NEED is as it was", w.is(8), 2);
    due("no such thing", w.bestNeed(3), -1);
    due("no such thing", w.bestNeed(-1), -1);
    TrackVotes v = with("s0,0,10,8;r100;r200;r300;p5,0,0;");
    due("by the best, not by NEED", v.bestNeed(1), 1);
    due("NEED 8 finds none", v.particle(0, 4), -2);
  }

  private static void deeds() {
    promise = 27;
    TrackVotes x = with("r100;");
    due("the first", x.add(0, -9999, 0), 0);
    due("the next", x.add(0, 9999, 999), 1);
    due("no such layer", x.add(1, 0, 0), -1);
    due("no such layer", x.add(-1, 0, 0), -1);
    due("no such Y", x.add(0, 10000, 0), -1);
    due("no such Y", x.add(0, -10000, 0), -1);
    due("no such TIME", x.add(0, 0, 1000), -1);
    due("no such TIME", x.add(0, 0, -1), -1);
    due("deeds", x.is(14), 3);
    for (int i = 2; i < 60; i++) due("add", x.add(0, 0, 0), i);
    due("no room", x.add(0, 0, 0), -1);
    due("of nobody", x.hit(59, 3), -2);
    promise = 28;
    due("strike", x.strike(0), 59);
    due("struck", x.strike(0), -1);
    due("no such one", x.strike(60), -1);
    due("no such one", x.strike(-1), -1);
    due("its TIME", x.hit(0, 2), -1);
    promise = 29;
    TrackVotes y = with(TWO);
    due("dead", y.dead(3), 0);
    due("alive again", y.dead(3), 1);
    due("no such one", y.dead(4), -1);
    due("no such one", y.dead(-1), -1);
    due("deeds", y.is(14), 3);
    y.dead(3);
    due("three hits each", y.track(0, 3), 3);
    promise = 30;
    due("what it was", y.need(2), 3);
    due("what it was", y.need(8), 2);
    due("none", y.many(0), 0);
    due("too few", y.need(1), -1);
    due("too many", y.need(9), -1);
    due("it stays", y.is(8), 8);
    due("deeds", y.is(14), 6);
  }

  private static void crossAndPredicted() {
    promise = 31;
    TrackVotes x = with(TWO);
    due("CROSS", x.cross(0, 1, 0), 6250);
    due("CROSS", x.cross(0, 1, 1), 1);
    due("the other way", x.cross(1, 0, 0), 6250);
    due("with itself", x.cross(1, 1, 0), -1000000000000L);
    due("no such track", x.cross(0, 2, 0), -1000000000000L);
    due("no such track", x.cross(-1, 0, 0), -1000000000000L);
    due("no such thing", x.cross(0, 1, 2), -1000000000000L);
    due("no such thing", x.cross(0, 1, -1), -1000000000000L);
    TrackVotes z = with("s0,0,10,2;r2;r5;h0,0,0;h1,1,0;h0,20,0;h1,25,0;");
    // (x - 2) / 3 and (5x + 50) / 3: 4x = -52.
    due("CROSS", z.cross(0, 1, 0), -13);
    due("lower number", z.cross(0, 1, 1), 1);
    TrackVotes s = with("s0,0,10,2;r2;r5;h0,0,0;h1,1,0;h0,21,0;h1,27,0;");
    // (x - 2) / 3 and (6x + 51) / 3: 5x = -53.
    due("CROSS", s.cross(1, 0, 0), -53);
    due("its lower number", s.cross(0, 1, 1), 5);
    TrackVotes w = with(FLAT + "p5,0,0;p55,0,0;");
    due("like slopes", w.cross(0, 1, 0), -2);
    due("like slopes", w.cross(0, 1, 1), -2);
    due("but what first", w.cross(0, 1, 2), -1000000000000L);
    promise = 32;
    due("PREDICTED", x.predicted(0, 0), 497);
    due("PREDICTED", x.predicted(1, 3), 20);
    due("no such layer", x.predicted(0, 4), -100000);
    due("no such layer", x.predicted(0, -1), -100000);
    due("no such track", x.predicted(2, 0), -100000);
    due("no such track", x.predicted(-1, 0), -100000);
    TrackVotes r = with("s0,0,10,2;r1;r2;r3;r4;h1,4,0;h3,5,0;");
    due("floored", r.predicted(0, 0), 3);
    due("floored", r.predicted(0, 2), 4);
    promise = 33;
    due("MISSING", x.missing(0), 0);
    due("MISSING", r.missing(0), 2);
    r.dead(0);
    due("dead ones aside", r.missing(0), 1);
    due("no such track", r.missing(1), -1);
    due("no such track", r.missing(-1), -1);
  }

  private static void nearestAndOffset() {
    promise = 34;
    TrackVotes x = with(TWO);
    due("NEAREST", x.nearest(0, 1), 8);
    due("none", x.nearest(0, 0), -2);
    due("no such layer", x.nearest(0, 4), -1);
    due("no such layer", x.nearest(0, -1), -1);
    due("no such track", x.nearest(2, 0), -1);
    due("no such track", x.nearest(-1, 0), -1);
    int a = x.add(1, 500, 0);
    int b = x.add(1, 488, 0);
    due("like ones: the first", x.nearest(0, 1), a);
    x.strike(a);
    due("that COUNT", x.nearest(0, 1), b);
    x.dead(1);
    due("none on a dead layer", x.nearest(0, 1), -2);
    promise = 35;
    TrackVotes y = with("s0,0,10,3;r1;r2;r3;h0,0,0;h1,3,0;h2,0,0;h0,50,0;h1,51,0;h2,50,0;");
    // At 1 and at 50: off -1, 2, -1 and 0, 1, 0.
    due("OFFSET", y.offset(0, 0), -1);
    due("OFFSET", y.offset(1, 0), 1);
    due("of two", y.offset(1, 1), 2);
    due("no such layer", y.offset(3, 0), -100000);
    due("no such layer", y.offset(-1, 0), -100000);
    due("no such thing", y.offset(0, 2), -100000);
    due("no such thing", y.offset(0, -1), -100000);
    y.dead(0);
    due("0 without", y.offset(0, 0), 0);
    due("of none", y.offset(0, 1), 0);
  }

  private static void align() {
    promise = 36;
    TrackVotes x = with("r100;r200;h0,9998,0;h0,-5,0;h0,9000,0;h1,7,0;");
    x.strike(1);
    due("all but those that would have no Y, struck ones too", x.align(0, 2), 2);
    due("too high stays", x.hit(0, 1), 9998);
    due("struck", x.hit(1, 1), -3);
    due("higher", x.hit(2, 1), 9002);
    due("another layer", x.hit(3, 1), 7);
    due("a deed", x.is(14), 3);
    due("999", x.align(1, 999), 1);
    due("-999", x.align(1, -999), 1);
    due("1000", x.align(1, 1000), -1);
    due("-1000", x.align(1, -1000), -1);
    due("no such layer", x.align(2, 1), -1);
    due("no such layer", x.align(-1, 1), -1);
    due("by 0", x.align(0, 0), 3);
    due("deeds", x.is(14), 6);
    x.undo();
    x.undo();
    due("taken back", x.hit(3, 1), 1006);
  }

  private static void ghosts() {
    promise = 37;
    TrackVotes x = with(TWO);
    int[] first = {0, -2, 49, 4};
    for (int i = 0; i < 4; i++) due("ghost(0, " + i + ")", x.ghost(0, i), first[i]);
    int ahead = 8;
    for (int i = 0; i < 20; i++) {
      due("most VOTES first", x.ghost(i, 3) <= ahead && x.ghost(i, 3) >= 3, true);
      due("its VOTES", x.votes(x.ghost(i, 0), x.ghost(i, 1), x.ghost(i, 2)), x.ghost(i, 3));
      ahead = x.ghost(i, 3);
    }
    due("the first 20 alone", x.ghost(20, 0), -100000);
    due("none below 0", x.ghost(-1, 0), -100000);
    due("no such thing", x.ghost(0, 4), -100000);
    due("no such thing", x.ghost(0, -1), -100000);
    TrackVotes y = with("s0,1,10,2;r100;r200;h0,5,0;h1,5,0;");
    // Slope -1: 6, 7 in cell 0; slope 1: 4, 3 in cell 0: two ghosts.
    due("GHOSTS", y.many(1), 2);
    due("the lesser t first", y.ghost(0, 1), -1);
    due("then the other", y.ghost(1, 1), 1);
    due("no third", y.ghost(2, 0), -100000);
    y.need(3);
    due("NEED 3", y.many(1), 0);
    due("no first", y.ghost(0, 0), -100000);
  }

  private static void windows() {
    promise = 38;
    TrackVotes x = with("r100;r200;h0,0,10;h0,0,12;h1,0,14;h0,0,999;h1,0,997;h1,0,998;");
    due("three in 3", x.window(3, 0), 997);
    due("three in 3", x.window(3, 1), 3);
    due("the first of 5", x.window(5, 0), 10);
    due("how many", x.window(5, 1), 3);
    due("of 6 the first begins ahead", x.window(6, 0), 9);
    due("one tick", x.window(1, 0), 10);
    due("one tick", x.window(1, 1), 1);
    due("all", x.window(1000, 0), 0);
    due("all", x.window(1000, 1), 6);
    text(x, "w500,500;");
    due("FROM, TO aside", x.window(1000, 1), 6);
    x.dead(1);
    due("LAYERS that are alive", x.window(1000, 1), 3);
    x.strike(0);
    due("struck ones aside", x.window(1000, 1), 2);
    due("no ticks", x.window(0, 0), -1);
    due("too many", x.window(1001, 0), -1);
    due("no such thing", x.window(1, 2), -1);
    due("no such thing", x.window(1, -1), -1);
    due("nothing", new TrackVotes().window(1, 0), 0);
  }

  private static void undo() {
    promise = 39;
    TrackVotes x = new TrackVotes();
    due("none", x.undo(), -1);
    text(x, "r100;r200;g5;");
    due("taken back", x.undo(), 0);
    due("no layers", x.is(0), 0);
    due("GAP", x.is(9), 20);
    due("none", x.undo(), -1);
    text(x, "r100;p7,0,0;");
    trigger(x, "h=1");
    due("yes", x.yes(), 1);
    x.add(0, 1, 1);
    x.strike(0);
    x.dead(0);
    x.need(5);
    x.align(0, 3);
    due("deeds", x.is(14), 7);
    due("align back", x.undo(), 6);
    due("Y", x.hit(1, 1), 1);
    due("need back", x.undo(), 5);
    due("NEED", x.is(8), 3);
    due("dead back", x.undo(), 4);
    due("alive", x.layer(0, 1), 1);
    due("strike back", x.undo(), 3);
    due("TIME", x.hit(0, 2), 10);
    due("add back", x.undo(), 2);
    due("HITS", x.is(2), 1);
    due("yes", x.yes(), 1);
    due("trigger back", x.undo(), 1);
    due("none then", x.yes(), 0);
    due("text back", x.undo(), 0);
    due("PARTICLES", x.is(4), 0);
    for (int i = 0; i < 9; i++) x.need(2 + i % 7);
    due("8 at most", x.is(14), 8);
    for (int i = 7; i >= 0; i--) due("taken back", x.undo(), i);
    due("none", x.undo(), -1);
    due("the ninth stays", x.is(8), 2);
    TrackVotes y = with(TWO);
    due("tracks", y.many(0), 2);
    y.need(5);
    due("tracks", y.many(0), 0);
    y.undo();
    due("tracks again", y.many(0), 2);
    feedAll(y, "g1;");
    y.undo();
    due("the tape is as it was", y.is(15), 3);
  }

  private static void keep() {
    promise = 40;
    TrackVotes x = with(TWO);
    trigger(x, "n=2");
    due("keep(0)", x.keep(0), true);
    due("keep(2)", x.keep(2), false);
    due("keep(-1)", x.keep(-1), false);
    due("no deed", x.is(14), 2);
    promise = 41;
    due("restore(1)", x.restore(1), false);
    due("restore(2)", x.restore(2), false);
    due("restore(-1)", x.restore(-1), false);
    due("no deed", x.is(14), 2);
    x.dead(0);
    x.align(1, 5);
    trigger(x, "");
    x.keep(1);
    due("restore(0)", x.restore(0), true);
    due("alive", x.layer(0, 1), 1);
    due("Y", x.hit(8, 1), 100);
    due("the trigger", x.yes(), 1);
    due("a deed", x.is(14), 6);
    due("undo", x.undo(), 5);
    due("dead", x.layer(0, 1), 0);
    due("no trigger", x.yes(), 0);
    x.restore(0);
    x.strike(8);
    due("again", x.restore(0), true);
    due("what is kept stays as it was", x.hit(8, 2), 5);
    due("restore(1)", x.restore(1), true);
    due("Y", x.hit(8, 1), 105);
    promise = 40;
    x.keep(0);
    x.restore(0);
    due("kept anew", x.hit(8, 1), 105);
  }

  private static String written(TrackVotes x) {
    StringBuilder out = new StringBuilder();
    int length = x.write();
    for (int i = 0; i < length; i++) out.append((char) x.octet(i));
    due("none behind", x.octet(length), -1);
    due("none ahead", x.octet(-1), -1);
    return out.toString();
  }

  private static void sameText(String got, String want) {
    asked++;
    if (!got.equals(want)) {
      wrong++;
      System.out.println("promise " + promise + ": written " + got + ", due is " + want);
    }
  }

  private static void write() {
    promise = 42;
    TrackVotes x = new TrackVotes();
    due("write()", x.write(), 30);
    sameText(written(x), "s1,10,10,3;g20;w0,999;q100,50;");
    text(x, "r1;r20;r300;r999;p0,0,0;s0,0,500,8;g0;w5,10;q9999,1000;");
    promise = 43;
    due("the latest written stays", x.octet(29), ';');
    due("and no more", x.octet(30), -1);
    promise = 42;
    sameText(written(x), "r1;r20;r300;r999;s0,0,500,8;g0;w5,10;q9999,1000;");
    TrackVotes y = with(written(x));
    sameText(written(y), "r1;r20;r300;r999;s0,0,500,8;g0;w5,10;q9999,1000;");
    TrackVotes z = with("r992;r993;r994;r995;r996;r997;r998;r999;s3,20,500,8;g999;w998,999;q9999,9999;");
    due("the longest", z.write(), 77);
    due("no deed", z.is(14), 1);
  }

  /** Rule 7: no call may throw, whatever it is asked. */
  private static void wildArguments() {
    promise = 0;
    int[] wild = {Integer.MIN_VALUE, -100000, -2, -1, 0, 1, 2, 3, 7, 8, 20, 60, 499, 500, 100000, Integer.MAX_VALUE};
    TrackVotes[] of = {new TrackVotes(), with(TWO), with("r999;"), with("s3,20,1,2;" + "r1;r2;r998;r999;p0,50,5;p9,-50,-5;")};
    for (TrackVotes x : of) {
      for (int a : wild) {
        x.end(a); x.is(a); x.many(a); x.thing(a); x.worth(a); x.bestNeed(a); x.strike(a); x.dead(a); x.need(a);
        x.missing(a); x.keep(a); x.restore(a); x.octet(a); x.undo();
        for (int b : wild) {
          x.layer(a, b); x.hit(a, b); x.particle(a, b); x.track(a, b); x.of(a, b); x.fit(a, b); x.vertex(a, b);
          x.predicted(a, b); x.nearest(a, b); x.offset(a, b); x.align(a, b); x.ghost(a, b); x.window(a, b);
          for (int c : wild) {
            x.lift(a, b, c); x.votes(a, b, c); x.workers(a, b, c); x.add(a, b, c); x.cross(a, b, c);
            x.queue(a, b, c, a, b); x.queue(5, a, b, c, 0); x.queue(a, 5, b, c, 1);
          }
        }
      }
    }
    due("no call threw", 0, 0);
  }
}
