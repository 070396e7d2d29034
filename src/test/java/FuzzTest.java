import java.util.Random;

/** Long runs of calls by a seeded source, each answer compared with NaiveVotes. */
public final class FuzzTest {
  private static int wrong = 0;
  private static long calls = 0;

  private final Random random;
  private final TrackVotes x = new TrackVotes();
  private final NaiveVotes y = new NaiveVotes();
  private final StringBuilder log = new StringBuilder();
  private final boolean wide;
  private int left = 512;
  private boolean stopped = false;

  private FuzzTest(long seed) {
    random = new Random(seed);
    wide = seed % 16 == 0;
    log.append("seed ").append(seed);
  }

  public static void main(String[] args) {
    int runs = args.length > 0 ? Integer.parseInt(args[0]) : 400;
    long first = args.length > 1 ? Long.parseLong(args[1]) : 1;
    for (long seed = first; seed < first + runs && wrong < 5; seed++) new FuzzTest(seed).run();
    System.out.println(wrong == 0 ? "FuzzTest: all " + calls + " answers are alike" : "FuzzTest: " + wrong + " runs differ");
    if (wrong != 0) System.exit(1);
  }

  private int upTo(int most) { return random.nextInt(most + 1); }

  private int between(int least, int most) { return least + random.nextInt(most - least + 1); }

  private void due(String call, long got, long want) {
    calls++;
    left--;
    log.append("\n  ").append(call).append(" -> ").append(want);
    if (got == want || stopped) return;
    stopped = true;
    left = -1;
    wrong++;
    System.out.println(log + " but was " + got);
  }

  private void run() {
    say(setUp());
    due("text()", x.text(), y.text());
    while (left > 0) {
      if (random.nextInt(3) == 0) change(); else ask();
    }
  }

  // ---- texts

  private void say(String text) {
    due("end(0)", x.end(0), y.end(0));
    String padded = text + "\0".repeat((20 - text.length() % 20) % 20);
    for (int i = 0; i < padded.length(); i += 20) {
      int[] w = new int[5];
      for (int j = 0; j < 20; j++) w[j / 4] |= (padded.charAt(i + j) & 255) << (24 - 8 * (j % 4));
      due("feed(" + padded.substring(i, i + 20).replace('\0', '_') + ")", x.feed(w[0], w[1], w[2], w[3], w[4]),
          y.feed(w[0], w[1], w[2], w[3], w[4]));
    }
    due("end(" + text.length() + ")", x.end(text.length()), y.end(text.length()));
  }

  private String number(int n) { return random.nextInt(30) == 0 && n >= 0 && n < 100 ? "0" + n : "" + n; }

  private String setUp() {
    StringBuilder out = new StringBuilder();
    if (random.nextInt(4) != 0) out.append(settings());
    int layers = between(2, 8);
    int at = 0;
    for (int l = 0; l < layers; l++) {
      at += random.nextInt(5) == 0 ? 1 : between(1, 120);
      out.append("r").append(at).append(";");
    }
    for (int i = upTo(7); i > 0; i--) out.append(particleItem());
    for (int i = upTo(20); i > 0 && out.length() < 480; i--) out.append(hitItem(layers));
    return out.length() > 500 ? out.substring(0, out.lastIndexOf(";", 499) + 1) : out.toString();
  }

  private String settings() {
    int bends = wide ? 3 : upTo(2);
    int slopes = wide ? 20 : upTo(6);
    int[] widths = {1, 2, 3, 4, 7, 10, 20, 50, 499, 500};
    return "s" + bends + "," + slopes + "," + widths[random.nextInt(widths.length)] + "," + between(2, 4) + ";";
  }

  private int height() {
    return random.nextInt(40) == 0 ? between(-9999, 9999) : random.nextInt(3) == 0 ? 10 * between(-10, 10) : between(-60, 60);
  }

  private int time() { return random.nextInt(6) == 0 ? upTo(999) : upTo(99); }

  private String particleItem() {
    return "p" + number(height()) + "," + number(random.nextInt(12) == 0 ? between(-50, 50) : between(-6, 6)) + ","
        + number(random.nextInt(12) == 0 ? between(-5, 5) : between(-1, 1)) + ";";
  }

  private String hitItem(int layers) { return "h" + upTo(Math.max(0, layers - 1)) + "," + height() + "," + time() + ";"; }

  private String item() {
    int layers = y.is(0);
    switch (random.nextInt(9)) {
      case 0: return "r" + between(1, 999) + ";";
      case 1: return particleItem();
      case 2: return settings();
      case 3: return "g" + (random.nextBoolean() ? upTo(5) : upTo(200)) + ";";
      case 4: return "w" + upTo(random.nextInt(5) == 0 ? 999 : 10) + "," + between(10, random.nextInt(3) == 0 ? 60 : 999) + ";";
      case 5: return "q" + between(1, 9999) + "," + upTo(9999) + ";";
      default: return hitItem(layers);
    }
  }

  private String spoil(String text) {
    if (text.isEmpty() || random.nextInt(3) != 0) return text;
    int i = random.nextInt(text.length());
    String signs = "-,;0123456789rhpsgwqxdn!()&|<>=+*\u00e9";
    char sign = signs.charAt(random.nextInt(signs.length()));
    switch (random.nextInt(4)) {
      case 0: return text.substring(0, i);
      case 1: return text.substring(0, i) + sign + text.substring(i);
      case 2: return text.substring(0, i) + sign + text.substring(i + 1);
      default: return text.substring(0, i) + text.substring(i + 1);
    }
  }

  private String cond(int depth) {
    StringBuilder out = new StringBuilder(test(depth));
    for (int i = random.nextInt(3); i > 0; i--) out.append(random.nextBoolean() ? '|' : '&').append(test(depth));
    return out.toString();
  }

  private String test(int depth) {
    int r = random.nextInt(depth > 6 ? 4 : 8);
    if (r >= 6) return "!" + test(depth + 1);
    if (r >= 4) return "(" + cond(depth + 1) + ")";
    return sum() + "<>=".charAt(random.nextInt(3)) + sum();
  }

  private String sum() {
    StringBuilder out = new StringBuilder(oneThing());
    for (int i = random.nextInt(3); i > 0; i--) out.append("+-*".charAt(random.nextInt(3))).append(oneThing());
    return out.toString();
  }

  private String oneThing() {
    int r = random.nextInt(5);
    if (r == 0) return "" + upTo(9999);
    return r == 1 ? "" + upTo(5) : "" + "nhvgmluo".charAt(random.nextInt(8));
  }

  private String actsText() {
    StringBuilder out = new StringBuilder();
    int n = random.nextInt(8) == 0 ? between(18, 23) : upTo(4);
    for (int i = 0; i < n; i++) {
      switch (random.nextInt(4)) {
        case 0: out.append(hitItem(y.is(0))); break;
        case 1: out.append("x").append(upTo(y.is(2))).append(";"); break;
        case 2: out.append("d").append(upTo(y.is(0))).append(";"); break;
        default: out.append("n").append(between(random.nextInt(5) == 0 ? 0 : 2, 4)).append(";"); break;
      }
    }
    return out.length() > 500 ? out.substring(0, 500) : out.toString();
  }

  private String cut(String text) { return text.length() > 500 ? text.substring(0, 500) : text; }

  // ---- calls

  private void change() {
    int a = between(-1, y.is(0)), h = between(-1, y.is(2));
    switch (random.nextInt(13)) {
      case 0: {
        StringBuilder text = new StringBuilder();
        for (int i = upTo(4); i > 0; i--) text.append(item());
        say(cut(spoil(text.toString())));
        due("text()", x.text(), y.text());
        due("fault()", x.fault(), y.fault());
        break;
      }
      case 1:
        say(cut(spoil(random.nextInt(10) == 0 ? "" : cond(0))));
        due("trigger()", x.trigger(), y.trigger());
        due("fault()", x.fault(), y.fault());
        due("yes()", x.yes(), y.yes());
        break;
      case 2:
        say(cut(spoil(actsText())));
        due("acts()", x.acts(), y.acts());
        due("fault()", x.fault(), y.fault());
        due("ended()", x.ended(), y.ended());
        break;
      case 3: case 4: {
        int height = height(), time = time();
        if (random.nextInt(9) == 0) height = between(-10001, 10001);
        if (random.nextInt(9) == 0) time = between(-1, 1001);
        due("add(" + a + ", " + height + ", " + time + ")", x.add(a, height, time), y.add(a, height, time));
        break;
      }
      case 5: due("strike(" + h + ")", x.strike(h), y.strike(h)); break;
      case 6: due("dead(" + a + ")", x.dead(a), y.dead(a)); break;
      case 7: {
        int n = between(1, random.nextInt(3) == 0 ? 9 : 4);
        due("need(" + n + ")", x.need(n), y.need(n));
        break;
      }
      case 8: {
        int by = random.nextInt(5) == 0 ? between(-1001, 1001) : between(-20, 20);
        due("align(" + a + ", " + by + ")", x.align(a, by), y.align(a, by));
        break;
      }
      case 9: case 10: due("undo()", x.undo(), y.undo()); break;
      case 11: { int k = between(-1, 2); due("keep(" + k + ")", x.keep(k) ? 1 : 0, y.keep(k) ? 1 : 0); break; }
      default: { int k = between(-1, 2); due("restore(" + k + ")", x.restore(k) ? 1 : 0, y.restore(k) ? 1 : 0); break; }
    }
  }

  private void ask() {
    int l = between(-1, y.is(0)), h = between(-1, y.is(2)), p = between(-1, y.is(4)), w = between(-1, 9);
    int i = between(-1, y.many(0)), j = between(-1, y.many(0));
    switch (random.nextInt(27)) {
      case 0: { int k = between(-1, 16); due("is(" + k + ")", x.is(k), y.is(k)); break; }
      case 1: due("layer(" + l + ", " + w + ")", x.layer(l, w), y.layer(l, w)); break;
      case 2: case 3: due("hit(" + h + ", " + w + ")", x.hit(h, w), y.hit(h, w)); break;
      case 4: due("particle(" + p + ", " + w + ")", x.particle(p, w), y.particle(p, w)); break;
      case 5: { int t = between(-101, 101), k = between(-101, 101); due("lift(" + l + ", " + t + ", " + k + ")", x.lift(l, t, k), y.lift(l, t, k)); break; }
      case 6: { int k = between(-2, 2), t = between(-5, 5), b = between(-5, 5); due("votes(" + k + ", " + t + ", " + b + ")", x.votes(k, t, b), y.votes(k, t, b)); break; }
      case 7: case 8: { int k = between(-1, 6); due("many(" + k + ")", x.many(k), y.many(k)); break; }
      case 9: case 10: due("track(" + i + ", " + w + ")", x.track(i, w), y.track(i, w)); break;
      case 11: due("of(" + i + ", " + l + ")", x.of(i, l), y.of(i, l)); break;
      case 12: case 13: due("fit(" + i + ", " + w + ")", x.fit(i, w), y.fit(i, w)); break;
      case 14: due("vertex(" + i + ", " + w % 3 + ")", x.vertex(i, w % 3), y.vertex(i, w % 3)); break;
      case 15: due("yes()", x.yes(), y.yes()); break;
      case 16: { int c = random.nextInt(4) == 0 ? between(-2, 300) : "nhvgmluo".charAt(random.nextInt(8)); due("thing(" + c + ")", x.thing(c), y.thing(c)); break; }
      case 17: due("work()", x.work(), y.work()); break;
      case 18: askQueue(); break;
      case 19: due("worth(" + l + ")", x.worth(l), y.worth(l)); break;
      case 20: { int k = between(-1, 3); due("bestNeed(" + k + ")", x.bestNeed(k), y.bestNeed(k)); break; }
      case 21: { int k = between(-1, 2); due("cross(" + i + ", " + j + ", " + k + ")", x.cross(i, j, k), y.cross(i, j, k)); break; }
      case 22: due("predicted(" + i + ", " + l + ")", x.predicted(i, l), y.predicted(i, l)); due("missing(" + i + ")", x.missing(i), y.missing(i)); break;
      case 23: due("nearest(" + i + ", " + l + ")", x.nearest(i, l), y.nearest(i, l)); break;
      case 24: { int k = between(-1, 2); due("offset(" + l + ", " + k + ")", x.offset(l, k), y.offset(l, k)); break; }
      case 25: { int g = between(-1, 20), k = between(-1, 4); due("ghost(" + g + ", " + k + ")", x.ghost(g, k), y.ghost(g, k)); break; }
      default: askWindowOrWritten(); break;
    }
  }

  private void askQueue() {
    int n = random.nextInt(4) == 0 ? between(-1, 201) : between(1, 20);
    int period = random.nextInt(4) == 0 ? between(0, 1000) : between(1, 12);
    int w = random.nextInt(3) == 0 ? between(0, 9) : between(1, 3);
    int b = random.nextInt(3) == 0 ? between(-1, 51) : upTo(3);
    int what = between(-1, 4);
    if (random.nextBoolean()) due("queue(" + n + ", " + period + ", " + w + ", " + b + ", " + what + ")", x.queue(n, period, w, b, what), y.queue(n, period, w, b, what));
    else due("workers(" + n + ", " + period + ", " + b + ")", x.workers(n, period, b), y.workers(n, period, b));
  }

  private void askWindowOrWritten() {
    if (random.nextBoolean()) {
      int ticks = random.nextInt(3) == 0 ? between(-1, 1002) : between(1, 40), what = between(-1, 2);
      due("window(" + ticks + ", " + what + ")", x.window(ticks, what), y.window(ticks, what));
    } else {
      due("write()", x.write(), y.write());
      for (int k = 0; k < 3; k++) {
        int place = between(-1, 80);
        due("octet(" + place + ")", x.octet(place), y.octet(place));
      }
    }
  }
}
