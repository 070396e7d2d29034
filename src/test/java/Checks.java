import java.util.function.Consumer;

/** What the tests of the edges share: which sentence is tested, and the answers that are due by it. */
final class Checks {
  /** The calls that the document lets an object be used for. */
  private static final int MOST_CALLS = 512;

  private static int wrong = 0;
  private static int asked = 0;
  private static int sentences = 0;
  private static String sentence = "";

  private Checks() {
  }

  /** What follows tests these words of the document. */
  static void says(String words) {
    sentence = words;
    sentences++;
  }

  static void due(String call, long got, long want) {
    asked++;
    if (got != want) {
      wrong++;
      System.out.println("\"" + sentence + "\": " + call + " answered " + got + ", due is " + want);
    }
  }

  static void due(String call, boolean got, boolean want) {
    due(call, got ? 1 : 0, want ? 1 : 0);
  }

  static void same(String call, String got, String want) {
    asked++;
    if (!got.equals(want)) {
      wrong++;
      System.out.println("\"" + sentence + "\": " + call + " left\n  " + got + ", due is\n  " + want);
    }
  }

  static void finish(String name) {
    String all = asked + " answers to " + sentences + " sentences";
    System.out.println(name + ": " + (wrong == 0 ? all + " are as due" : wrong + " of " + all + " are not as due"));
    if (wrong != 0) System.exit(1);
  }

  // ---- texts

  static void feed(TrackVotes x, String text) {
    x.end(0);
    for (int i = 0; i < text.length(); i += 20) {
      int[] w = new int[5];
      for (int j = 0; j < 20 && i + j < text.length(); j++) w[j / 4] |= (text.charAt(i + j) & 255) << (24 - 8 * (j % 4));
      x.feed(w[0], w[1], w[2], w[3], w[4]);
    }
    due("end of " + text, x.end(text.length()), text.length());
  }

  static int text(TrackVotes x, String text) {
    feed(x, text);
    return x.text();
  }

  static int trigger(TrackVotes x, String text) {
    feed(x, text);
    return x.trigger();
  }

  static int acts(TrackVotes x, String text) {
    feed(x, text);
    return x.acts();
  }

  /** Whether this trigger says YES: -1 if it is none. */
  static int yes(TrackVotes x, String text) {
    return trigger(x, text) < 0 ? -1 : x.yes();
  }

  /** A new object with this text, which must be well. */
  static TrackVotes with(String text) {
    TrackVotes x = new TrackVotes();
    if (text(x, text) < 0) due("the fault of " + text, x.fault(), -1);
    return x;
  }

  static void textFault(TrackVotes x, String text, int at) {
    due("text " + text, text(x, text), -1);
    due("the fault of text " + text, x.fault(), at);
  }

  static void triggerFault(TrackVotes x, String text, int at) {
    due("trigger " + text, trigger(x, text), -1);
    due("the fault of trigger " + text, x.fault(), at);
  }

  static void actsFault(TrackVotes x, String text, int at) {
    due("acts " + text, acts(x, text), -1);
    due("the fault of acts " + text, x.fault(), at);
  }

  static String written(TrackVotes x) {
    StringBuilder out = new StringBuilder();
    int length = x.write();
    for (int i = 0; i < length; i++) out.append((char) x.octet(i));
    return out.toString();
  }

  // ---- all that there is

  /** An object with something of everything, five deeds, and both places kept. */
  static TrackVotes scene() {
    TrackVotes x = with("r100;r200;r300;r400;p0,5,0;p500,-3,0;h1,100,5;");
    x.keep(0);
    trigger(x, "n=2&h<20");
    x.add(2, -77, 9);
    x.strike(9);
    x.keep(1);
    x.dead(3);
    return x;
  }

  /** What can be asked of a small object, told as one text, and of what its deeds go back to. */
  static String all(TrackVotes x) {
    StringBuilder out = new StringBuilder();
    int calls = tell(x, out);
    while (x.undo() >= 0) {
      out.append("\n  back:");
      for (int i = 0; i < 15; i++) out.append(' ').append(x.is(i));
      out.append(" yes ").append(x.yes());
      calls += 17;
    }
    if (calls > MOST_CALLS - 60) due("calls on one object", calls, 0);
    return out.toString();
  }

  private static int tell(TrackVotes x, StringBuilder out) {
    int calls = 0;
    for (int i = 0; i < 16; i++, calls++) out.append(' ').append(x.is(i));
    for (int l = 0; l < x.is(0); l++) {
      out.append("\n  layer");
      for (int i = 0; i < 3; i++, calls++) out.append(' ').append(x.layer(l, i));
    }
    for (int h = 0; h < x.is(2); h++) {
      out.append("\n  hit");
      for (int i = 0; i < 6; i++, calls++) out.append(' ').append(x.hit(h, i));
    }
    for (int p = 0; p < x.is(4); p++) {
      out.append("\n  particle");
      for (int i = 0; i < 5; i++, calls++) out.append(' ').append(x.particle(p, i));
    }
    for (int t = 0; t < x.many(0); t++) {
      out.append("\n  track");
      for (int i = 0; i < 9; i++, calls++) out.append(' ').append(x.track(t, i));
      for (int i = 0; i < 6; i++, calls++) out.append(' ').append(x.fit(t, i));
    }
    for (int v = 0; v < x.many(2); v++, calls += 2) out.append("\n  vertex ").append(x.vertex(v, 0)).append(' ').append(x.vertex(v, 1));
    for (int g = 0; g < 2; g++) {
      out.append("\n  ghost");
      for (int i = 0; i < 4; i++, calls++) out.append(' ').append(x.ghost(g, i));
    }
    out.append("\n  many");
    for (int i = 0; i < 6; i++, calls++) out.append(' ').append(x.many(i));
    out.append(" work ").append(x.work()).append(" yes ").append(x.yes());
    return calls + x.is(0) + x.is(2) + x.is(4) + x.many(0) + 10;
  }

  /** A call that is refused leaves the scene as it was. */
  static void changesNothing(String call, Consumer<TrackVotes> refused) {
    TrackVotes x = scene();
    refused.accept(x);
    same(call, all(x), all(scene()));
    for (int k = 0; k < 2; k++) {
      TrackVotes y = scene();
      TrackVotes z = scene();
      refused.accept(y);
      due("restore", y.restore(k), z.restore(k));
      for (int i = 0; i < 16; i++) due(call + ", restore(" + k + "), is(" + i + ")", y.is(i), z.is(i));
    }
  }
}
