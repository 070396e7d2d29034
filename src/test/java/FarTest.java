import java.util.Random;
import java.util.TreeSet;

/**
 * Layers and hits at the far ends of what is taken, where the fractions are greatest: the class must
 * answer as NaiveVotes, which reckons in whole numbers without a bound. Arguments: how many runs, the
 * first seed.
 */
public final class FarTest {
  private static final int[] WIDTHS = {500, 499, 498, 2, 1};

  private static int wrong = 0;
  private static long asked = 0;
  private static long greatest = 0;

  private final long seed;
  private final Random random;
  private final TrackVotes x = new TrackVotes();
  private final NaiveVotes y = new NaiveVotes();

  private FarTest(long seed) {
    this.seed = seed;
    random = new Random(seed);
  }

  public static void main(String[] args) {
    int runs = args.length > 0 ? Integer.parseInt(args[0]) : 250;
    long first = args.length > 1 ? Long.parseLong(args[1]) : 1;
    for (long seed = first; seed < first + runs && wrong < 20; seed++) new FarTest(seed).run();
    greatestCross();
    if (greatest < 1L << 58) {
      wrong++;
      System.out.println("no fraction was great: " + greatest);
    }
    System.out.println(wrong == 0 ? "FarTest: all " + asked + " answers are alike" : "FarTest: " + wrong + " answers differ");
    if (wrong != 0) System.exit(1);
  }

  private void due(String call, long got, long want) {
    asked++;
    if (got == want) return;
    wrong++;
    System.out.println("seed " + seed + ": " + call + " answered " + got + ", due is " + want);
  }

  private void say(String text) {
    for (int i = 0; i < text.length(); i += 20) {
      int[] w = new int[5];
      for (int j = 0; j < 20 && i + j < text.length(); j++) w[j / 4] |= (text.charAt(i + j) & 255) << (24 - 8 * (j % 4));
      x.feed(w[0], w[1], w[2], w[3], w[4]);
      y.feed(w[0], w[1], w[2], w[3], w[4]);
    }
    due("end", x.end(text.length()), y.end(text.length()));
    due("text " + text, x.text(), y.text());
  }

  private void run() {
    int width = random.nextInt(3) == 0 ? random.nextInt(500) + 1 : WIDTHS[random.nextInt(WIDTHS.length)];
    int slopes = random.nextInt(6) == 0 ? 20 : random.nextInt(4);
    int layers = 2 + random.nextInt(7);
    StringBuilder text = new StringBuilder("s" + random.nextInt(4) + "," + slopes + "," + width + "," + (2 + random.nextInt(2)) + ";");
    for (int at : distances(layers)) text.append("r").append(at).append(";");
    say(text.toString());
    int[] heights = {9999, -9999, 9500, -9500, random.nextInt(19999) - 9999, random.nextInt(19999) - 9999};
    for (int h = 2 * layers + random.nextInt(60 - 2 * layers + 1); h > 0; h--) {
      int height = heights[random.nextInt(heights.length)] + random.nextInt(width + 1) - width / 2;
      int clipped = Math.max(-9999, Math.min(9999, height));
      int layer = random.nextInt(layers);
      due("add", x.add(layer, clipped, 5), y.add(layer, clipped, 5));
    }
    askAll(layers);
  }

  /** Anywhere, at both ends, at the far end, at the near end. */
  private TreeSet<Integer> distances(int layers) {
    TreeSet<Integer> at = new TreeSet<>();
    int where = random.nextInt(4);
    while (at.size() < layers) {
      if (where == 0) at.add(1 + random.nextInt(999));
      else if (where == 1) at.add(random.nextBoolean() ? 1 + random.nextInt(6) : 994 + random.nextInt(6));
      else at.add(where == 2 ? 980 + random.nextInt(20) : 1 + random.nextInt(20));
    }
    return at;
  }

  private void askAll(int layers) {
    for (int w = 0; w < 6; w++) due("many(" + w + ")", x.many(w), y.many(w));
    int tracks = y.many(0);
    for (int i = 0; i < tracks; i++) askTrack(i, layers, tracks);
    for (int v = 0; v < y.many(2); v++) due("vertex(" + v + ", 1)", x.vertex(v, 1), y.vertex(v, 1));
    for (int l = 0; l < layers; l++) due("offset(" + l + ", 0)", x.offset(l, 0), y.offset(l, 0));
    for (int g = 0; g < 20; g++) due("ghost(" + g + ", 2)", x.ghost(g, 2), y.ghost(g, 2));
  }

  private void askTrack(int i, int layers, int tracks) {
    for (int w = 0; w < 9; w++) due("track(" + i + ", " + w + ")", x.track(i, w), y.track(i, w));
    for (int w = 0; w < 6; w++) due("fit(" + i + ", " + w + ")", x.fit(i, w), y.fit(i, w));
    for (int l = 0; l < layers; l++) {
      due("of(" + i + ", " + l + ")", x.of(i, l), y.of(i, l));
      due("predicted(" + i + ", " + l + ")", x.predicted(i, l), y.predicted(i, l));
      due("nearest(" + i + ", " + l + ")", x.nearest(i, l), y.nearest(i, l));
    }
    for (int j = 0; j < tracks; j++) {
      for (int w = 0; w < 2; w++) askCross(i, j, w);
    }
  }

  private void askCross(int i, int j, int w) {
    long want = y.cross(i, j, w);
    due("cross(" + i + ", " + j + ", " + w + ")", x.cross(i, j, w), want);
    if (i != j) greatest = Math.max(greatest, Math.abs(want));
  }

  /** A line at each end of what is a Y, on layers that give the greatest lower numbers. */
  private static void greatestCross() {
    FarTest far = new FarTest(0);
    far.say("s0,0,500,2;r1;r2;r3;r4;r995;r997;r998;r999;");
    for (int l = 0; l < 8; l++) {
      int up = 9999 - l * l % 7;
      addBoth(far, l, up);
      if (l != 4) addBoth(far, l, -up + l);
    }
    far.due("tracks", far.x.many(0), 2);
    far.askAll(8);
  }

  private static void addBoth(FarTest far, int l, int height) {
    far.due("add", far.x.add(l, height, 0), far.y.add(l, height, 0));
  }
}
