/** The edges of the tape and of what stands on it: THE TEXT, THE TRIGGER, ACTS (promises 2 to 8). */
public final class TextEdgesTest {
  /** An item of each kind; cut anywhere, its numbers still can be. */
  private static final String[] ITEMS = {"r300;", "h1,-120,345;", "p-1234,50,-5;", "s3,20,500,8;", "g999;", "w5,55;", "q9999,9999;"};
  /** Two layers, so that there is a LAYER 0, 1 and none other. */
  private static final String TWO_LAYERS = "r1;r2;";

  public static void main(String[] args) {
    tape();
    tapeEnd();
    wholeTexts();
    layers();
    ranges();
    numbers();
    fromAndTo();
    cutTexts();
    wrongBytes();
    tooManyLayers();
    tooManyHits();
    tooManyParticles();
    whatParticlesLeave();
    firstFaultOnly();
    allOrNothing();
    triggers();
    triggerThings();
    triggerDepth();
    triggerFaults();
    triggerSums();
    triggerTests();
    acts();
    actsEdges();
    actsFaults();
    actsRefused();
    faultAndEnded();
    Checks.finish("TextEdgesTest");
  }

  // ---- the tape

  private static void tape() {
    Checks.says("Twenty bytes come behind the tape, the highest of a first: how many it has.");
    TrackVotes x = new TrackVotes();
    Checks.due("feed", x.feed(word("r12;"), word("r345"), word(";g67"), word(";w89"), word(",99;")), 20);
    Checks.due("feed", x.feed(word("q123"), word("4,56"), word("78;p"), word("-1,2"), word(",-3;")), 40);
    Checks.due("text()", x.text(), 6);
    int[] now = {12, 345, 67, 89, 99, 1234, 5678, -1, 2, -3};
    int[] got = {x.layer(0, 0), x.layer(1, 0), x.is(9), x.is(10), x.is(11), x.is(12), x.is(13), x.particle(0, 0), x.particle(0, 1), x.particle(0, 2)};
    for (int i = 0; i < now.length; i++) Checks.due("what was fed, " + i, got[i], now[i]);
    Checks.due("bytes of 128 on", x.feed(-1, -1, -1, -1, -1), 20);
    Checks.due("text()", x.text(), -1);
    Checks.due("fault()", x.fault(), 0);
    Checks.due("from none again", x.feed(0, 0, 0, 0, 0), 20);

    Checks.says("NONE, and none come, if there would be more than 500.");
    TrackVotes y = new TrackVotes();
    for (int i = 1; i <= 25; i++) Checks.due("feed", y.feed(0, 0, 0, 0, 0), 20 * i);
    Checks.due("to 520", y.feed(0, 0, 0, 0, 0), -1);
    Checks.due("is(15)", y.is(15), 500);
    for (int n = 499; n > 480; n -= 6) {
      Checks.due("end", y.end(n), n);
      Checks.due("beyond 500", y.feed(0, 0, 0, 0, 0), -1);
      Checks.due("is(15)", y.is(15), n);
    }
    y.end(481);
    Checks.due("to 501", y.feed(0, 0, 0, 0, 0), -1);
    Checks.due("is(15)", y.is(15), 481);
    y.end(480);
    Checks.due("to 500", y.feed(0, 0, 0, 0, 0), 500);
    TrackVotes z = new TrackVotes();
    Checks.feed(z, "g1;".repeat(165) + "g77;");
    Checks.due("to 519", z.feed(word("g88;"), 0, 0, 0, 0), -1);
    Checks.due("what was there stays", z.text(), 166);
    Checks.due("GAP", z.is(9), 77);
  }

  private static int word(String four) {
    return four.charAt(0) << 24 | four.charAt(1) << 16 | four.charAt(2) << 8 | four.charAt(3);
  }

  private static void tapeEnd() {
    Checks.says("The tape has its first n bytes alone: n.");
    TrackVotes x = new TrackVotes();
    Checks.due("end(0) of none", x.end(0), 0);
    x.feed(word("g12;"), word("g34;"), word("g56;"), 0, 0);
    Checks.due("all of it", x.end(20), 20);
    Checks.due("its first", x.end(8), 8);
    Checks.due("is(15)", x.is(15), 8);
    x.feed(word("g78;"), 0, 0, 0, 0);
    x.end(12);
    Checks.due("what comes next stands behind them", x.text(), 3);
    Checks.due("GAP", x.is(9), 78);
    x.feed(word("g99;"), 0, 0, 0, 0);
    Checks.due("none", x.end(0), 0);
    Checks.due("an empty text", x.text(), 0);
    Checks.due("GAP", x.is(9), 78);
    Checks.says("NONE, and nothing is done, if it has not so many, or n is below 0.");
    TrackVotes y = new TrackVotes();
    Checks.due("end(1) of none", y.end(1), -1);
    y.feed(word("g12;"), word("g34;"), 0, 0, 0);
    y.end(8);
    for (int n : new int[] {9, 20, 500, Integer.MAX_VALUE, -1, -8, Integer.MIN_VALUE}) {
      Checks.due("end(" + n + ")", y.end(n), -1);
      Checks.due("is(15)", y.is(15), 8);
    }
    Checks.due("text()", y.text(), 2);
  }

  // ---- THE TEXT

  private static void wholeTexts() {
    Checks.says("The tape (empty then) is THE TEXT: how many ITEMS.");
    TrackVotes x = new TrackVotes();
    Checks.due("an empty one", x.text(), 0);
    Checks.due("a DEED", x.is(14), 1);
    Checks.due("one ITEM", Checks.text(x, "g1;"), 1);
    Checks.due("is(15)", x.is(15), 0);
    Checks.due("again: empty", x.text(), 0);
    Checks.due("a text of 498 bytes", Checks.text(x, "g1;".repeat(166)), 166);
    Checks.due("a text of 500 bytes", Checks.text(x, "g1;".repeat(164) + "g20;g30;"), 166);
    Checks.due("GAP", x.is(9), 30);
    Checks.due("one of each", Checks.text(x, "r1;" + String.join("", ITEMS)), 8);
    Checks.says("NONE: a FAULT.");
    Checks.due("text()", Checks.text(x, "g1;g"), -1);
    Checks.due("the tape is empty then", x.is(15), 0);
    Checks.says("ITEMS, each with ; behind");
    Checks.textFault(x, "g1", 2);
    Checks.textFault(x, "g1;;", 3);
    Checks.textFault(x, ";", 0);
    Checks.textFault(x, "g1,", 2);
    Checks.textFault(x, "g1g2;", 2);
  }

  private static void layers() {
    Checks.says("each greater than the ones ahead");
    TrackVotes x = Checks.with("r500;");
    Checks.textFault(x, "r500;", 1);
    Checks.textFault(x, "r499;", 1);
    Checks.textFault(x, "r1;", 1);
    Checks.due("one more", Checks.text(x, "r501;"), 1);
    Checks.textFault(x, "r501;", 1);
    Checks.textFault(x, "r600;g1;r600;", 9);
    Checks.textFault(x, "r600;r700;r650;", 11);
    Checks.due("within one text", Checks.text(x, "r502;r503;r999;"), 3);
    Checks.textFault(x, "r999;", 1);
    Checks.due("LAYERS", x.is(0), 5);
    int[] due = {500, 501, 502, 503, 999};
    for (int l = 0; l < 5; l++) Checks.due("X", x.layer(l, 0), due[l]);
    Checks.says("alive or dead (alive at first)");
    for (int l = 0; l < 5; l++) Checks.due("layer(" + l + ", 1)", x.layer(l, 1), 1);
    Checks.says("each greater than the ones ahead");
    x.dead(4);
    Checks.textFault(x, "r998;", 1);
  }

  /** The last number that is taken and the first that is not, on both sides. */
  private static void ranges() {
    range("X (1 to 999", "r", 1, 999, ";");
    range("h LAYER , Y , TIME", "h", 0, 1, ",0,0;");
    range("Y (-9999 to 9999)", "h0,", -9999, 9999, ",0;");
    range("TIME (0 to 999)", "h1,0,", 0, 999, ";");
    range("START (-9999 to 9999)", "p", -9999, 9999, ",0,0;");
    range("SLOPE (-50 to 50)", "p0,", -50, 50, ",0;");
    range("BEND (-5 to 5)", "p0,0,", -5, 5, ";");
    range("BENDS (0 to 3; 1 at first)", "s", 0, 3, ",10,10,3;");
    range("SLOPES (0 to 20; 10)", "s1,", 0, 20, ",10,3;");
    range("WIDTH (1 to 500; 10)", "s1,10,", 1, 500, ",3;");
    range("NEED (2 to 8; 3)", "s1,10,10,", 2, 8, ";");
    range("GAP (0 to 999; 20)", "g", 0, 999, ";");
    range("FROM, TO (TIMES 0 to 999; 0, 999)", "w", 0, 999, ",999;");
    range("FROM, TO (TIMES 0 to 999; 0, 999)", "w0,", 0, 999, ";");
    range("SPEED (1 to 9999; 100)", "q", 1, 9999, ",50;");
    range("LIMIT (0 to 9999; 50)", "q100,", 0, 9999, ";");
  }

  private static void range(String words, String ahead, int least, int most, String behind) {
    Checks.says(words);
    taken(ahead, least, behind);
    taken(ahead, most, behind);
    for (int n : new int[] {least - 1, most + 1, -9999, 9999}) {
      if ((n >= least && n <= most) || n < -9999 || n > 9999) continue;
      Checks.says("a number that can't be (TO below FROM): its first byte, as it ends");
      TrackVotes x = rangeScene(ahead);
      Checks.textFault(x, ahead + n + behind, ahead.length());
      Checks.textFault(x, "g7;" + ahead + n + behind, 3 + ahead.length());
      Checks.textFault(x, ahead + n + behind.charAt(0), ahead.length());
      Checks.textFault(x, ahead + n, ahead.length());
      Checks.textFault(x, ahead + n + "!", ahead.length());
      Checks.due("GAP stays", x.is(9), 20);
      Checks.due("HITS stay", x.is(2), 0);
      Checks.due("PARTICLES stay", x.is(4), 0);
      Checks.due("DEEDS stay", x.is(14), ahead.equals("r") ? 0 : 1);
    }
  }

  private static TrackVotes rangeScene(String ahead) {
    return ahead.equals("r") ? new TrackVotes() : Checks.with(TWO_LAYERS);
  }

  /** It is taken and can be asked for, as the number it was. */
  private static void taken(String ahead, int n, String behind) {
    TrackVotes x = rangeScene(ahead);
    Checks.due("text " + ahead + n + behind, Checks.text(x, ahead + n + behind), 1);
    Checks.due("what came of " + ahead + n + behind, cameOf(x, ahead), n);
  }

  private static int cameOf(TrackVotes x, String ahead) {
    switch (ahead) {
      case "r": return x.layer(0, 0);
      case "h": return x.hit(0, 0);
      case "h0,": return x.hit(0, 1);
      case "h1,0,": return x.hit(0, 2);
      case "p": return x.particle(0, 0);
      case "p0,": return x.particle(0, 1);
      case "p0,0,": return x.particle(0, 2);
      case "s": return x.is(5);
      case "s1,": return x.is(6);
      case "s1,10,": return x.is(7);
      case "s1,10,10,": return x.is(8);
      case "g": return x.is(9);
      case "w": return x.is(10);
      case "w0,": return x.is(11);
      case "q": return x.is(12);
      case "q100,": return x.is(13);
      default: return -1000000;
    }
  }

  private static void numbers() {
    Checks.says("A number: perhaps -, 1 to 4 digits.");
    TrackVotes x = Checks.with(TWO_LAYERS);
    Checks.due("1 digit", Checks.text(x, "g0;g9;"), 2);
    Checks.due("4 digits", Checks.text(x, "g0999;h0,-9999,0999;h0001,0000,0000;"), 3);
    Checks.due("GAP", x.is(9), 999);
    Checks.due("Y", x.hit(0, 1), -9999);
    Checks.due("TIME", x.hit(0, 2), 999);
    Checks.due("LAYER", x.hit(1, 0), 1);
    Checks.due("-0", Checks.text(x, "h-0,-0,-0;g-0000;"), 2);
    Checks.due("LAYER", x.hit(2, 0), 0);
    Checks.due("Y", x.hit(2, 1), 0);
    Checks.due("GAP", x.is(9), 0);
    String[] none = {"r;", "g;", "h,0,0;", "h0,,0;", "h0,0,;", "p,0,0;", "p0,,0;", "s,0,1,2;", "s0,0,,2;", "w,0;", "w0,;", "q1,;"};
    int[] at = {1, 1, 1, 3, 5, 1, 3, 1, 5, 1, 3, 3};
    for (int i = 0; i < none.length; i++) Checks.textFault(x, none[i], at[i]);
    Checks.textFault(x, "g-;", 2);
    Checks.textFault(x, "g-", 2);
    Checks.textFault(x, "g--1;", 2);
    Checks.textFault(x, "g+1;", 1);
    Checks.textFault(x, "g1-;", 2);
    Checks.textFault(x, "h0,-,0;", 4);
    Checks.says("a 5th digit, too");
    Checks.textFault(x, "g00001;", 5);
    Checks.textFault(x, "g-00001;", 6);
    Checks.textFault(x, "g99999;", 5);
    Checks.textFault(x, "r99999", 5);
    Checks.textFault(x, "h00000,0,0;", 5);
    Checks.textFault(x, "h0,10000,0;", 7);
    Checks.textFault(x, "h0,-10000,0;", 8);
    Checks.textFault(x, "h0,0,00000;", 9);
    Checks.textFault(x, "p10000,0,0;", 5);
    Checks.textFault(x, "q1,10000;", 7);
    Checks.textFault(x, "q10000,1;", 5);
  }

  private static void fromAndTo() {
    Checks.says("TO below FROM");
    TrackVotes x = new TrackVotes();
    Checks.due("like", Checks.text(x, "w500,500;"), 1);
    Checks.due("one more", Checks.text(x, "w500,501;"), 1);
    Checks.textFault(x, "w500,499;", 5);
    Checks.textFault(x, "w500,0;", 5);
    Checks.textFault(x, "w999,998;", 5);
    Checks.textFault(x, "w1,0;", 3);
    Checks.textFault(x, "w0501,0500;", 6);
    Checks.due("all below the old FROM", Checks.text(x, "w0,1;"), 1);
    Checks.due("all above the old TO", Checks.text(x, "w998,999;"), 1);
    Checks.due("FROM", x.is(10), 998);
    Checks.due("the last", Checks.text(x, "w999,999;"), 1);
    Checks.due("the first", Checks.text(x, "w0,0;"), 1);
  }

  private static void cutTexts() {
    Checks.says("its length, if it ends too early");
    for (String item : ITEMS) {
      for (int n = 1; n < item.length(); n++) {
        Checks.textFault(Checks.with(TWO_LAYERS), item.substring(0, n), n);
        Checks.textFault(Checks.with(TWO_LAYERS), "g1;" + item.substring(0, n), 3 + n);
      }
    }
    TrackVotes x = new TrackVotes();
    Checks.textFault(x, "g1;".repeat(166) + "g", 499);
    Checks.textFault(x, "g1;".repeat(166) + "g1", 500);
  }

  private static void wrongBytes() {
    Checks.says("the first byte with which no such text goes on");
    for (String item : ITEMS) {
      for (int n = 0; n < item.length(); n++) {
        TrackVotes x = Checks.with(TWO_LAYERS);
        for (char c : new char[] {'!', 0, 255, (char) (item.charAt(n) | 128)}) {
          Checks.textFault(x, item.substring(0, n) + c + item.substring(n), n);
        }
      }
    }
    TrackVotes y = Checks.with(TWO_LAYERS);
    for (int c = 0; c < 256; c++) {
      if ("rhpsgwq".indexOf(c) < 0) Checks.textFault(Checks.with(TWO_LAYERS), (char) c + "1,1,1;", 0);
    }
    for (char c : "RHPSGWQxdn".toCharArray()) Checks.textFault(y, c + "1;", 0);
    for (String near : new String[] {"g1/", "g1:", "g1+", "g1.", "g1<"}) Checks.textFault(y, near, 2);
    Checks.textFault(y, "h0,0;", 4);
    Checks.textFault(y, "h0,0,0,0;", 6);
    Checks.textFault(y, "s1,1,1;", 6);
    Checks.textFault(y, "s1,1,1,2,2;", 8);
    Checks.textFault(y, "w1;", 2);
    Checks.textFault(y, "w1,1,1;", 4);
    Checks.textFault(y, "g1,1;", 2);
    Checks.textFault(y, "r300,1;", 4);
    Checks.says("no blanks");
    for (String blank : new String[] {" g1;", "g 1;", "g1 ;", "g1; ", "g1;\n", "g\t1;"}) {
      int at = 0;
      while (blank.charAt(at) > ' ') at++;
      Checks.textFault(y, blank, at);
    }
  }

  private static String ascending(int first, int count) {
    StringBuilder out = new StringBuilder();
    for (int i = 0; i < count; i++) out.append("r").append(first + i).append(";");
    return out.toString();
  }

  private static void tooManyLayers() {
    Checks.says("LAYERS (8 at most)");
    TrackVotes x = new TrackVotes();
    Checks.due("8 in one text", Checks.text(x, ascending(1, 8)), 8);
    Checks.due("LAYERS", x.is(0), 8);
    Checks.due("the last", x.layer(7, 0), 8);
    Checks.textFault(x, "r9;", 0);
    Checks.textFault(x, "g5;r9;", 3);
    Checks.due("LAYERS", x.is(0), 8);
    Checks.due("GAP", x.is(9), 20);
    Checks.due("other ITEMS", Checks.text(x, "g5;"), 1);
    Checks.says("one LAYER, HIT, PARTICLE too many (by what a PARTICLE leaves, too): the ITEM's letter");
    TrackVotes y = new TrackVotes();
    Checks.textFault(y, ascending(1, 9), 24);
    Checks.due("none came", y.is(0), 0);
    Checks.due("7", Checks.text(y, ascending(1, 7)), 7);
    Checks.textFault(y, "r8;r9;", 3);
    Checks.due("the 8th", Checks.text(y, "r8;"), 1);
    Checks.textFault(y, "r1;", 0);
    Checks.textFault(y, "r", 0);
  }

  private static TrackVotes withHits(int count) {
    TrackVotes x = Checks.with("r100;r200;r300;");
    for (int i = 0; i < count; i++) Checks.due("add", x.add(0, i, 0), i);
    return x;
  }

  private static void tooManyHits() {
    Checks.says("one LAYER, HIT, PARTICLE too many (by what a PARTICLE leaves, too): the ITEM's letter");
    TrackVotes x = new TrackVotes();
    Checks.due("60 in one text", Checks.text(x, "r1;" + "h0,0,0;".repeat(60)), 61);
    Checks.due("HITS", x.is(2), 60);
    Checks.textFault(x, "h0,0,0;", 0);
    Checks.textFault(x, "g5;h0,0,0;", 3);
    Checks.textFault(x, "h", 0);
    Checks.due("HITS", x.is(2), 60);
    Checks.textFault(new TrackVotes(), "r1;" + "h0,0,0;".repeat(61), 3 + 7 * 60);
    TrackVotes y = withHits(59);
    Checks.textFault(y, "h0,0,0;h1,0,0;", 7);
    Checks.due("HITS", y.is(2), 59);
    Checks.due("the 60th", Checks.text(y, "h0,0,0;"), 1);
    // A PARTICLE leaves three.
    TrackVotes z = withHits(57);
    Checks.due("57 and 3", Checks.text(z, "p0,0,0;"), 1);
    Checks.due("HITS", z.is(2), 60);
    Checks.textFault(z, "p0,0,0;", 0);
    Checks.due("PARTICLES", z.is(4), 1);
    TrackVotes w = withHits(58);
    Checks.textFault(w, "g5;p0,0,0;g6;", 3);
    Checks.due("HITS", w.is(2), 58);
    Checks.due("PARTICLES", w.is(4), 0);
    Checks.due("GAP", w.is(9), 20);
    // 9950 and 20 for each 100: 9970, 9990, 10010.
    Checks.due("two of its three are Ys", Checks.text(w, "p9950,20,0;"), 1);
    Checks.due("HITS", w.is(2), 60);
    Checks.due("one that leaves none", Checks.text(w, "p9999,50,5;"), 1);
    Checks.due("PARTICLES", w.is(4), 2);
    TrackVotes v = withHits(54);
    Checks.textFault(v, "p0,0,0;p0,0,0;p0,0,0;", 14);
    Checks.due("HITS", v.is(2), 54);
    Checks.textFault(v, "p0,0,0;p0,0,0;h0,0,0;", 14);
    Checks.due("54 and 6", Checks.text(v, "p0,0,0;p0,0,0;"), 2);
  }

  private static void tooManyParticles() {
    Checks.says("PARTICLES (12)");
    TrackVotes x = new TrackVotes();
    Checks.due("12", Checks.text(x, "p1,2,3;".repeat(12)), 12);
    Checks.due("PARTICLES", x.is(4), 12);
    Checks.due("the last", x.particle(11, 2), 3);
    Checks.textFault(x, "p0,0,0;", 0);
    Checks.textFault(x, "g5;p0,0,0;", 3);
    Checks.textFault(x, "p", 0);
    Checks.due("PARTICLES", x.is(4), 12);
    Checks.textFault(new TrackVotes(), "p0,0,0;".repeat(13), 84);
    TrackVotes y = Checks.with("p0,0,0;".repeat(11));
    Checks.textFault(y, "p0,0,0;p0,0,0;", 7);
    Checks.due("PARTICLES", y.is(4), 11);
    Checks.due("the 12th", Checks.text(y, "p0,0,0;"), 1);
  }

  private static void whatParticlesLeave() {
    Checks.says("A PARTICLE, as it is told, leaves a HIT on each LAYER there is (dead, too; by number)");
    TrackVotes x = Checks.with("p5,0,0;r100;p6,0,0;r200;");
    Checks.due("without LAYERS: none", x.particle(0, 3), 0);
    Checks.due("those there are as it is told", x.is(2), 1);
    Checks.due("whose", x.hit(0, 3), 1);
    x.dead(0);
    Checks.text(x, "p7,0,0;");
    Checks.due("dead, too", x.is(2), 3);
    Checks.due("by number", x.hit(1, 0), 0);
    Checks.due("by number", x.hit(2, 0), 1);
    Checks.due("whose", x.hit(1, 3), 2);
    Checks.due("whose", x.hit(2, 3), 2);
    Checks.says("as high as its CURVE, if that is a Y");
    // SLOPE 1 lifts by 1, 2, 3; SLOPE -1 by -1, -2, -3.
    TrackVotes y = Checks.with("r100;r200;r300;p9997,1,0;");
    Checks.due("9998, 9999, not 10000", y.is(2), 2);
    Checks.due("the last that is", y.hit(1, 1), 9999);
    Checks.text(y, "p-9997,-1,0;");
    Checks.due("-9998, -9999, not -10000", y.is(2), 4);
    Checks.due("the last that is", y.hit(3, 1), -9999);
    // From above into what is a Y: BEND -1 lifts by -1, -4, -9; SLOPE 2 by 2, 4, 6.
    Checks.text(y, "p9999,2,-1;");
    Checks.due("10000 not, 9999, 9996", y.is(2), 6);
    Checks.due("the first that is", y.hit(4, 0), 1);
    Checks.due("its Y", y.hit(4, 1), 9999);
    Checks.due("the next", y.hit(5, 1), 9996);
    Checks.says("with TIME X by 10 (cut)");
    TrackVotes z = Checks.with("r1;r9;r10;r19;r20;r989;r990;r999;p0,0,0;");
    int[] due = {0, 0, 1, 1, 2, 98, 99, 99};
    for (int h = 0; h < 8; h++) Checks.due("hit(" + h + ", 2)", z.hit(h, 2), due[h]);
    Checks.says("(both floored)");
    // -1 times 15 by 100 and -1 times 225 by 10000, both a little below 0.
    TrackVotes w = Checks.with("r15;p0,-1,-1;p0,-1,0;p0,0,-1;p0,1,1;p0,50,-5;");
    int[] high = {-2, -1, -1, 0, 6};
    for (int h = 0; h < 5; h++) Checks.due("hit(" + h + ", 1)", w.hit(h, 1), high[h]);
    Checks.says("HITS (60): a LAYER, Y (-9999 to 9999), TIME (0 to 999), numbered as they come");
    TrackVotes v = Checks.with("r100;h0,1,1;p2,0,0;h0,3,3;");
    v.add(0, 4, 4);
    for (int h = 0; h < 4; h++) Checks.due("hit(" + h + ", 1)", v.hit(h, 1), h + 1);
  }

  private static void firstFaultOnly() {
    Checks.says("FAULT: the first byte with which no such text goes on");
    TrackVotes x = Checks.with(TWO_LAYERS);
    Checks.textFault(x, "g1000;g1001;", 1);
    Checks.textFault(x, "g1;g2000;x", 4);
    Checks.textFault(x, "x;g2000;", 0);
    Checks.textFault(x, "h2,0,1000;", 1);
    Checks.textFault(x, "h0,0,1000;h2,0,0;", 5);
    Checks.textFault(x, "s4,21,0,9;", 1);
    Checks.textFault(x, "s3,21,0,9;", 3);
    Checks.textFault(x, "s3,20,0,9;", 6);
    Checks.textFault(x, "s3,20,1,9;", 8);
    Checks.textFault(x, "w1000,10;", 1);
    Checks.textFault(x, "w10,1000;", 4);
    Checks.textFault(x, "q0,-1;", 1);
    Checks.textFault(x, "p0,51,6;", 3);
    Checks.textFault(x, "r2;r300", 1);
  }

  private static void allOrNothing() {
    Checks.says("All the text comes, or nothing.");
    String good = "r500;h0,1,1;p3,0,0;s0,0,1,2;g5;w1,2;q3,4;";
    TrackVotes x = Checks.scene();
    Checks.due("all of it", Checks.text(x, good), 7);
    Checks.due("LAYERS", x.is(0), 5);
    Checks.due("HITS", x.is(2), 16);
    Checks.due("LIMIT", x.is(13), 4);
    for (String bad : new String[] {"x", "g", "g1", "g1000;", "r500;", "h9,0,0;", "w5,4;", "p0,0,9;"}) {
      Checks.changesNothing("text " + good + bad, y -> Checks.due("text", Checks.text(y, good + bad), -1));
    }
    // Nothing of a text that a PARTICLE's HITS, or a LAYER, are too many for.
    Checks.changesNothing("too many HITS", y -> Checks.textFault(y, "p0,0,0;".repeat(10) + "h0,0,0;".repeat(11), 70 + 70));
    Checks.changesNothing("too many by a PARTICLE", y -> Checks.textFault(y, "h0,0,0;".repeat(47) + "p0,0,0;", 7 * 47));
    Checks.changesNothing("too many LAYERS", y -> Checks.textFault(y, ascending(401, 5), 20));
    Checks.changesNothing("too many PARTICLES", y -> Checks.textFault(y, "p0,0,0;".repeat(11), 70));
  }

  // ---- THE TRIGGER

  private static void triggers() {
    Checks.says("A TRIGGER, a text (none at first, and by an empty one)");
    TrackVotes x = new TrackVotes();
    Checks.due("none at first", x.yes(), 0);
    Checks.due("one that holds", Checks.yes(x, "1=1"), 1);
    Checks.due("an empty one", Checks.trigger(x, ""), 0);
    Checks.due("none", x.yes(), 0);
    Checks.due("each a DEED", x.is(14), 2);
    x.undo();
    Checks.due("taken back", x.yes(), 1);
    Checks.says("The tape (empty then) is THE TRIGGER: how many THINGS.");
    Checks.due("two", Checks.trigger(x, "n=1"), 2);
    Checks.due("is(15)", x.is(15), 0);
    Checks.due("NUMBERS are THINGS, too", Checks.trigger(x, "n+1=h*2-3"), 5);
    Checks.due("in all TESTS", Checks.trigger(x, "(n=1|h=2)&!v=3"), 6);
    Checks.due("a new one takes the old one's place", Checks.yes(x, "1=2"), 0);
    Checks.says("NONE: a FAULT (it stays).");
    for (String bad : new String[] {"x", "n", "1=", "1=1)", "1=12345", "!!!!!!!1=1", "1=1;"}) {
      Checks.changesNothing("trigger " + bad, y -> Checks.due("trigger", Checks.trigger(y, bad), -1));
    }
    TrackVotes z = new TrackVotes();
    Checks.trigger(z, "1=1");
    Checks.due("one that doesn't stand", Checks.trigger(z, "1=2&"), -1);
    Checks.due("is(15)", z.is(15), 0);
    Checks.due("it stays", z.yes(), 1);
    Checks.due("no DEED", z.is(14), 1);
  }

  private static void triggerThings() {
    Checks.says("30 THINGS");
    TrackVotes x = new TrackVotes();
    Checks.due("30 in one SUM", Checks.trigger(x, "0" + "+0".repeat(28) + "=0"), 30);
    Checks.due("it holds", x.yes(), 1);
    Checks.due("30 in 15 TESTS", Checks.trigger(x, "n=0" + "&n=0".repeat(14)), 30);
    Checks.due("it holds", x.yes(), 1);
    Checks.due("30 of 4 digits", Checks.trigger(x, "0001=0001" + "|0001=0001".repeat(14)), 30);
    Checks.due("it holds", x.yes(), 1);
    Checks.says("a 31st THING, a 7th ! (: at it");
    Checks.triggerFault(x, "0" + "+0".repeat(29) + "=0", 60);
    Checks.triggerFault(x, "0=0" + "+0".repeat(29), 3 + 2 * 28 + 1);
    Checks.triggerFault(x, "n=0" + "&n=0".repeat(15), 60);
    Checks.triggerFault(x, "n=0" + "&n=0".repeat(14) + "|!n=0", 61);
    Checks.triggerFault(x, "n=0" + "&n=0".repeat(14) + "|(x", 61);
    Checks.triggerFault(x, "n=0" + "&n=0".repeat(14) + "|", 60);
    Checks.triggerFault(x, "n=0" + "&n=0".repeat(14) + "|x", 60);
    Checks.due("a 29th is none too many", Checks.trigger(x, "0" + "+0".repeat(27) + "=0"), 29);
  }

  private static void triggerDepth() {
    Checks.says("6 ! and ( within one another");
    TrackVotes x = new TrackVotes();
    Checks.due("6 !", Checks.yes(x, "!!!!!!1=1"), 1);
    Checks.due("5 !", Checks.yes(x, "!!!!!1=1"), 0);
    Checks.due("6 (", Checks.yes(x, "((((((1=1))))))"), 1);
    Checks.due("3 ! and 3 (", Checks.yes(x, "!(!(!(1=1)))"), 0);
    Checks.due("6 again and again", Checks.yes(x, "!!!!!!1=1&((((((1=1))))))&(!(!(!1=2)))"), 1);
    Checks.due("side by side", Checks.yes(x, "(1=1)&(1=1)&(1=1)&(1=1)&(1=1)&(1=1)&(1=1)&!1=2"), 1);
    Checks.due("( ends what is within it", Checks.yes(x, "(((((1=1)&(1=1)|!1=1))))"), 1);
    Checks.due("6 behind a closed one", Checks.yes(x, "((((((1=1)))))&!!!!!1=1)"), 0);
    Checks.says("a 31st THING, a 7th ! (: at it");
    Checks.triggerFault(x, "!!!!!!!1=1", 6);
    Checks.triggerFault(x, "(((((((1=1)))))))", 6);
    Checks.triggerFault(x, "!(!(!((1=1))))", 6);
    Checks.triggerFault(x, "((((((!1=1))))))", 6);
    Checks.triggerFault(x, "!!!!!!(1=1)", 6);
    Checks.triggerFault(x, "1=1|!!!!!!!1=1", 10);
    Checks.triggerFault(x, "((((((1=1)))))&!!!!!!1=1)", 20);
    Checks.triggerFault(x, "!!!!!!!", 6);
    Checks.triggerFault(x, "!!!!!!", 6);
  }

  private static void triggerFaults() {
    Checks.says("FAULT: as above (a 31st THING, a 7th ! (: at it).");
    String whole = "n+12*h<34-v&!(g=1|m>1234)|l=u+o";
    Checks.due("it is well", Checks.trigger(new TrackVotes(), whole), 12);
    TrackVotes x = new TrackVotes();
    for (int n = 0; n < whole.length(); n++) {
      for (char c : new char[] {'x', 0, 255, ';', (char) (whole.charAt(n) | 128)}) {
        x = n % 4 == 0 ? new TrackVotes() : x;
        Checks.triggerFault(x, whole.substring(0, n) + c + whole.substring(n), n);
      }
    }
    TrackVotes y = new TrackVotes();
    // Where it may end it is well; where it may not, the FAULT is its length.
    for (int n = 1; n < whole.length(); n++) {
      String cut = whole.substring(0, n);
      boolean well = cut.equals("n+12*h<34".substring(0, Math.min(n, 9))) && (n == 8 || n == 9) || n == 11 || n == 25 || n == 29;
      if (well) Checks.due("trigger " + cut, Checks.trigger(y, cut) > 0, true);
      else Checks.triggerFault(y, cut, n);
    }
    String[] bad = {"=1", "1", "1=", "1==1", "1=1=1", "1<>1", "1+=1", "+1=1", "-1=1", "1=-1", "1=1+", "()", "(1)=1", "(1+1)=2", "1=(1)", "1=1()",
        "(1=1", "1=1)", "(1=1))", "!", "1!=1", "1=!1", "&1=1", "1=1&", "1=1&&1=1", "1=1|", "1=1||1=1", "1=1!1=1", "nn=1", "1n=1", "n1=1", "N=1", "1/1=1", " 1=1", "1 =1", "1=1 ", "1=1;"};
    int[] at = {0, 1, 2, 2, 3, 2, 2, 0, 0, 2, 4, 1, 2, 4, 2, 3,
        4, 3, 5, 1, 1, 2, 0, 4, 4, 4, 4, 3, 1, 1, 1, 0, 1, 0, 1, 3, 3};
    TrackVotes z = new TrackVotes();
    for (int i = 0; i < bad.length; i++) Checks.triggerFault(z, bad[i], at[i]);
    Checks.says("a NUMBER (1 to 4 digits)");
    Checks.due("1 digit", Checks.yes(z, "9=0009"), 1);
    Checks.due("4 digits", Checks.yes(z, "9999=9999"), 1);
    Checks.triggerFault(z, "10000=1", 4);
    Checks.triggerFault(z, "1=00001", 6);
    Checks.triggerFault(z, "1+12345=1", 6);
    Checks.triggerFault(z, "12345", 4);
  }

  private static void triggerSums() {
    Checks.says("SUM: THING { (+ or - or *) THING }, from the left (ints of 32 bits that go round)");
    TrackVotes x = new TrackVotes();
    Checks.due("* is no more than +", Checks.yes(x, "2+3*4=20"), 1);
    Checks.due("- from the left", Checks.yes(x, "9-3-2=4"), 1);
    Checks.due("on the right, too", Checks.yes(x, "20=2+3*4"), 1);
    Checks.due("below 0", Checks.yes(x, "0-1<0"), 1);
    Checks.due("times below 0", Checks.yes(x, "0-3*5+15=0"), 1);
    // 2048 times 1024 times 1024 is 2 to the 31st.
    Checks.due("the greatest and 1", Checks.yes(x, "2048*1024*1024<0"), 1);
    Checks.due("the least less 1", Checks.yes(x, "2048*1024*1024-1>0"), 1);
    Checks.due("and 1 again", Checks.yes(x, "2048*1024*1024-1+1<0"), 1);
    Checks.due("all gone round", Checks.yes(x, "4096*1024*1024=0"), 1);
    Checks.due("times -1", Checks.yes(x, "0-1*2048*1024*1024=2048*1024*1024"), 1);
    Checks.due("far more", Checks.yes(x, "9999" + "*9999".repeat(13) + "=9999" + "*9999".repeat(13)), 1);
  }

  private static void triggerTests() {
    TrackVotes x = new TrackVotes();
    Checks.says("SUM (< or > or =) SUM");
    int[][] less = {{4, 5, 1, 0, 0}, {5, 5, 0, 0, 1}, {6, 5, 0, 1, 0}};
    for (int[] row : less) {
      for (int i = 0; i < 3; i++) {
        String test = row[0] + "" + "<>=".charAt(i) + row[1];
        Checks.due(test, Checks.yes(x, test), row[2 + i]);
      }
    }
    Checks.says("COND: BOTH { | BOTH }; BOTH: TEST { & TEST }");
    String[] hold = {"1=2", "1=1"};
    for (int i = 0; i < 8; i++) {
      boolean a = (i & 1) != 0, b = (i & 2) != 0, c = (i & 4) != 0;
      String p = hold[i & 1], q = hold[i >> 1 & 1], r = hold[i >> 2];
      Checks.due(p + "|" + q + "&" + r, Checks.yes(x, p + "|" + q + "&" + r), a || b && c ? 1 : 0);
      Checks.due(p + "&" + q + "|" + r, Checks.yes(x, p + "&" + q + "|" + r), a && b || c ? 1 : 0);
      Checks.due("(" + p + "|" + q + ")&" + r, Checks.yes(x, "(" + p + "|" + q + ")&" + r), (a || b) && c ? 1 : 0);
      Checks.due("!" + p + "&" + q, Checks.yes(x, "!" + p + "&" + q), !a && b ? 1 : 0);
      Checks.due("!(" + p + "&" + q + ")", Checks.yes(x, "!(" + p + "&" + q + ")"), !(a && b) ? 1 : 0);
      x = new TrackVotes();
    }
    Checks.says("YES: it holds (none: not).");
    TrackVotes y = Checks.with("r100;");
    Checks.due("none", y.yes(), 0);
    Checks.due("h>0", Checks.yes(y, "h>0"), 0);
    y.add(0, 0, 0);
    Checks.due("as it is now", y.yes(), 1);
    y.strike(0);
    Checks.due("as it is now", y.yes(), 0);
    TrackVotes z = new TrackVotes();
    Checks.says("n TRACKS, h HITS that COUNT, v VERTICES, g GHOSTS, m most VOTES of a TRACK (0 without), l LAYERS alive, u HITS that COUNT of no TRACK, o TRACKS in the greatest VERTEX");
    for (char c : "nhvgmluo".toCharArray()) Checks.due(c + "=0", Checks.yes(z, c + "=0"), 1);
    Checks.due("all", Checks.yes(z, "n+h+v+g+m+l+u+o=0"), 1);
  }

  // ---- ACTS

  private static void acts() {
    Checks.says("The tape (empty then) is ACTS: how many were done.");
    TrackVotes x = Checks.with(TWO_LAYERS);
    Checks.due("none", Checks.acts(x, ""), 0);
    Checks.due("no DEED", x.is(14), 1);
    Checks.due("one of each", Checks.acts(x, "h1,-5,7;d0;n4;x0;"), 4);
    Checks.due("is(15)", x.is(15), 0);
    Checks.due("each a DEED", x.is(14), 5);
    Checks.due("LAYER", x.hit(0, 0), 1);
    Checks.due("Y", x.hit(0, 1), -5);
    Checks.due("of none", x.hit(0, 3), -2);
    Checks.due("NEED", x.is(8), 4);
    Checks.says("d LAYER (dead, or alive again)");
    Checks.due("dead", x.layer(0, 1), 0);
    Checks.acts(x, "d0;");
    Checks.due("alive again", x.layer(0, 1), 1);
    Checks.says("x HIT (struck: its TIME becomes -1, it never COUNTS)");
    Checks.due("its TIME", x.hit(0, 2), -1);
    Checks.due("it COUNTS", x.hit(0, 4), 0);
    Checks.text(x, "w0,0;");
    Checks.due("it COUNTS", x.hit(0, 4), 0);
    Checks.says("NONE: a FAULT (nothing is done).");
    for (String bad : new String[] {"x", "h0,0", "n2;d0;q", "n2;x1;n12345;", "n2;".repeat(21)}) {
      Checks.changesNothing("acts " + bad, y -> Checks.due("acts", Checks.acts(y, bad), -1));
    }
  }

  private static void actsEdges() {
    Checks.says("{ ACT ; }, 20 at most, no blanks");
    TrackVotes x = Checks.with(TWO_LAYERS);
    Checks.due("19", Checks.acts(x, "h0,0,0;".repeat(19)), 19);
    Checks.due("20", Checks.acts(x, "h0,1,1;".repeat(20)), 20);
    Checks.due("HITS", x.is(2), 39);
    Checks.due("DEEDS that can be taken back", x.is(14), 8);
    Checks.says("a 21st ACT: its first byte");
    Checks.actsFault(x, "h0,0,0;".repeat(21), 140);
    Checks.actsFault(x, "d0;".repeat(20) + "d", 60);
    Checks.actsFault(x, "d0;".repeat(20) + "!", 60);
    Checks.actsFault(x, "d0;".repeat(20) + ";", 60);
    Checks.due("none was done", x.is(2), 39);
    Checks.due("none was done", x.is(1), 2);
    Checks.says("numbers as in THE TEXT, any");
    Checks.due("no LAYER", Checks.acts(x, "h9999,-9999,9999;"), 0);
    Checks.due("fault()", x.fault(), -1);
    Checks.due("no HIT", Checks.acts(x, "x-9999;"), 0);
    Checks.due("fault()", x.fault(), -1);
    Checks.due("no NEED", Checks.acts(x, "n9999;"), 0);
    Checks.due("fault()", x.fault(), -1);
    Checks.due("0 ahead, -0", Checks.acts(x, "d-0;d0000;n0008;h-0,-0000,0999;"), 4);
    Checks.due("NEED", x.is(8), 8);
    Checks.due("TIME", x.hit(39, 2), 999);
  }

  private static void actsFaults() {
    Checks.says("FAULT: as above (numbers as in THE TEXT, any; a 21st ACT: its first byte).");
    for (String act : new String[] {"h1,-120,345;", "x-12;", "d1;", "n1234;"}) {
      TrackVotes x = Checks.with(TWO_LAYERS);
      for (int n = 1; n < act.length(); n++) {
        Checks.actsFault(x, act.substring(0, n), n);
        Checks.actsFault(x, "n2;" + act.substring(0, n), 3 + n);
      }
      for (int n = 0; n < act.length(); n++) {
        for (char c : new char[] {'!', ' ', 0, 255}) Checks.actsFault(x, act.substring(0, n) + c + act.substring(n), n);
      }
      Checks.due("none was done", x.is(14), 1);
    }
    TrackVotes y = Checks.with(TWO_LAYERS);
    for (char c : "rpsgwqHXDNkt;,-0".toCharArray()) Checks.actsFault(y, c + "2;", 0);
    String[] bad = {"n;", "n-;", "n--2;", "n+2;", "n00002;", "n-00002;", "n2,2;", "x1,1;", "d0,0;", "h0;", "h0,0;", "h0,0,0,0;", "h0,,0;", "n2;;", "n2; ", "n2"};
    int[] at = {1, 2, 2, 1, 5, 6, 2, 2, 2, 2, 4, 6, 3, 3, 3, 2};
    for (int i = 0; i < bad.length; i++) Checks.actsFault(y, bad[i], at[i]);
    Checks.due("none was done", y.is(14), 1);
  }

  private static void actsRefused() {
    Checks.says("Done one by one till one is refused.");
    String[] refused = {"h2,0,0;", "h-1,0,0;", "h0,0,1000;", "h0,0,-1;", "x1;", "x-1;", "x0;x0;", "d2;", "d-1;", "n1;", "n9;", "n-2;"};
    for (String act : refused) {
      TrackVotes x = Checks.with(TWO_LAYERS + "h0,0,0;");
      int ahead = act.startsWith("x0") ? 2 : 1;
      Checks.due("acts n5;" + act + "n6;", Checks.acts(x, "n5;" + act + "n6;"), ahead);
      Checks.due("ended()", x.ended(), ahead);
      Checks.due("fault()", x.fault(), -1);
      Checks.due("what is ahead was done, what is behind not", x.is(8), 5);
      Checks.due("DEEDS", x.is(14), 1 + ahead);
      Checks.due("HITS", x.is(2), 1);
      Checks.due("alive", x.is(1), 2);
    }
    TrackVotes y = Checks.with("r100;" + "h0,0,0;".repeat(58));
    Checks.due("59, 60, no room", Checks.acts(y, "h0,0,0;h0,0,0;h0,0,0;n2;"), 2);
    Checks.due("HITS", y.is(2), 60);
    Checks.due("ended()", y.ended(), 2);
    Checks.due("NEED", y.is(8), 3);
    Checks.due("y of a HIT told by the ACT ahead", Checks.acts(Checks.with(TWO_LAYERS), "h0,5,5;x0;"), 2);
  }

  private static void faultAndEnded() {
    Checks.says("The FAULT's place of the latest text(), trigger(), acts(); NONE, if that was well, ahead of any.");
    TrackVotes x = new TrackVotes();
    Checks.due("ahead of any", x.fault(), -1);
    Checks.textFault(x, "g1;x", 3);
    Checks.due("a trigger that is well", Checks.trigger(x, "1=1"), 2);
    Checks.due("fault()", x.fault(), -1);
    Checks.triggerFault(x, "1=x", 2);
    Checks.due("acts that are well", Checks.acts(x, ""), 0);
    Checks.due("fault()", x.fault(), -1);
    Checks.actsFault(x, "n12", 3);
    Checks.due("a text that is well", Checks.text(x, ""), 0);
    Checks.due("fault()", x.fault(), -1);
    Checks.textFault(x, "x", 0);
    Checks.due("refused, but no FAULT", Checks.acts(x, "n9;"), 0);
    Checks.due("fault()", x.fault(), -1);
    Checks.actsFault(x, "n", 1);
    Checks.due("an empty trigger", Checks.trigger(x, ""), 0);
    Checks.due("fault()", x.fault(), -1);
    Checks.triggerFault(x, "n", 1);
    x.undo();
    x.need(4);
    x.keep(0);
    x.restore(0);
    x.write();
    x.feed(0, 0, 0, 0, 0);
    x.end(5);
    Checks.due("other calls leave it", x.fault(), 1);
    Checks.says("Which ACT (0 on) ended the latest acts() that was not NONE.");
    TrackVotes y = new TrackVotes();
    Checks.due("ahead of any", y.ended(), -1);
    Checks.due("the first", Checks.acts(y, "d0;"), 0);
    Checks.due("ended()", y.ended(), 0);
    Checks.due("the last", Checks.acts(y, "n2;".repeat(19) + "n9;"), 19);
    Checks.due("ended()", y.ended(), 19);
    Checks.actsFault(y, "n2;n", 4);
    Checks.due("that was NONE", y.ended(), 19);
    Checks.text(y, "g1;");
    Checks.trigger(y, "1=1");
    y.undo();
    Checks.due("other calls leave it", y.ended(), 19);
    Checks.says("NONE: none did, ahead of any.");
    Checks.due("all done", Checks.acts(y, "n2;"), 1);
    Checks.due("none did", y.ended(), -1);
    Checks.acts(y, "d0;");
    Checks.due("none to do", Checks.acts(y, ""), 0);
    Checks.due("none did", y.ended(), -1);
  }
}
