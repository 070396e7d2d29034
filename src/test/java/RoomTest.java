import java.lang.management.ManagementFactory;
import java.lang.reflect.Array;
import java.lang.reflect.Field;
import java.lang.reflect.Modifier;
import java.util.ArrayDeque;
import java.util.Collections;
import java.util.IdentityHashMap;
import java.util.Set;

/** What an object takes of the one room (LANGUAGE.md, rule 12): all of it is made by the constructor. */
public final class RoomTest {
  private static final int MOST_OBJECTS = 500;
  private static final int MOST_ELEMENTS = 20000;
  /** Far below what a row for each hit in each call would come to. */
  private static final long MOST_BYTES = 20000;

  private static int wrong = 0;

  private static void atMost(String what, long got, long most) {
    if (got <= most) return;
    wrong++;
    System.out.println(what + ": " + got + ", at most " + most + " are due");
  }

  public static void main(String[] args) throws IllegalAccessException {
    count(new TrackVotes(), "a new object");
    TrackVotes used = new TrackVotes();
    use(used);
    count(used, "a used object");
    callsMakeNothing();
    System.out.println(wrong == 0 ? "RoomTest: the room is kept" : "RoomTest: " + wrong + " breaches");
    if (wrong != 0) System.exit(1);
  }

  private static void count(TrackVotes x, String what) throws IllegalAccessException {
    Set<Object> seen = Collections.newSetFromMap(new IdentityHashMap<>());
    ArrayDeque<Object> next = new ArrayDeque<>();
    seen.add(x);
    next.add(x);
    long elements = 0;
    while (!next.isEmpty()) {
      Object o = next.remove();
      if (o.getClass().isArray()) {
        elements += Array.getLength(o);
        if (o instanceof Object[]) for (Object part : (Object[]) o) follow(part, seen, next);
        continue;
      }
      for (Field f : o.getClass().getDeclaredFields()) {
        if (Modifier.isStatic(f.getModifiers())) continue;
        elements++;
        f.setAccessible(true);
        if (!f.getType().isPrimitive()) follow(f.get(o), seen, next);
      }
    }
    atMost("objects of " + what, seen.size(), MOST_OBJECTS);
    atMost("fields and elements of " + what, elements, MOST_ELEMENTS);
  }

  private static void follow(Object part, Set<Object> seen, ArrayDeque<Object> next) {
    if (part != null && seen.add(part)) next.add(part);
  }

  private static void callsMakeNothing() {
    for (int i = 0; i < 50; i++) use(new TrackVotes());
    TrackVotes x = new TrackVotes();
    com.sun.management.ThreadMXBean threads = (com.sun.management.ThreadMXBean) ManagementFactory.getThreadMXBean();
    long id = Thread.currentThread().getId();
    long before = threads.getThreadAllocatedBytes(id);
    use(x);
    atMost("bytes made by calls", threads.getThreadAllocatedBytes(id) - before, MOST_BYTES);
  }

  /** Each method of the face at least once, the dearest ones in a full plane. */
  private static void use(TrackVotes x) {
    Checks.text(x, "s3,20,50,2;r100;r200;r300;r400;r500;r600;r700;r800;p0,5,0;p500,-3,1;p-90,2,-1;g9;w0,999;q9,9;");
    for (int h = 0; h < 40; h++) x.add(h % 8, h * 37 % 400, h);
    Checks.trigger(x, "(n>3&g>2)|!h=1&v+u*o-m<l");
    Checks.acts(x, "h0,1,2;x3;d1;n3;d1;n2;");
    int sum = x.yes() + x.work() + x.fault() + x.ended() + x.workers(200, 1, 50) + x.missing(0) + x.strike(5);
    for (int i = 0; i < 10; i++) {
      sum += x.is(i) + x.many(i) + x.layer(0, i) + x.hit(i, 5) + x.particle(0, i) + x.track(0, i) + x.of(0, i);
      sum += (int) x.fit(0, i) + x.vertex(0, i) + x.worth(i) + x.bestNeed(i) + (int) x.cross(0, i, 0) + x.predicted(0, i);
      sum += x.nearest(0, i) + x.offset(i, 0) + x.ghost(i, 0) + x.window(i, 0) + x.queue(200, i, 3, 9, 2) + x.lift(i, 1, 1);
      sum += x.votes(0, 0, i) + x.thing('g') + x.align(i, 1) + x.dead(i) + x.need(i) + (x.keep(i) ? 1 : 0);
      sum += (x.restore(i) ? 1 : 0) + x.undo() + x.write() + x.octet(i);
    }
    if (sum == Integer.MIN_VALUE) System.out.println();
  }
}
