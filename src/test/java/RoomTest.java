import com.sun.management.ThreadMXBean;
import java.io.IOException;
import java.lang.management.ManagementFactory;
import java.lang.reflect.Array;
import java.lang.reflect.Field;
import java.lang.reflect.Modifier;
import java.nio.file.Files;
import java.nio.file.Path;
import java.util.IdentityHashMap;
import java.util.Map;

/** All calls of a run live in one room: an object is small, and no call makes another. */
public final class RoomTest {
  private static final Check check = new Check("RoomTest");
  private static final int ROUNDS = 10;
  private static final String LARGEST = "c0 1;c7 2;c7 2;c8 3;c60 9;c7 9;p0;p0;p0;p1;p60;h0 0 9;h0 1 9;h0 2 9;h1 2 9;h3 3 9;h4 4 9;h0 5 9;"
      + "d0 1 60;d0 2 7;d3 0 9;d1 3 4;d4 0 1;";

  public static void main(String[] args) throws IOException, IllegalAccessException {
    size();
    source();
    calls();
    check.end();
  }

  private static void size() throws IllegalAccessException {
    Map<Object, Object> seen = new IdentityHashMap<>();
    long fields = walk(new ChildCoins(), seen);
    check.due("an object is made of " + seen.size() + " objects and arrays, more than 60", seen.size() > 60 ? 1 : 0, 0);
    check.due("they have " + fields + " fields and elements, more than 3000", fields > 3000 ? 1 : 0, 0);
  }

  private static long walk(Object o, Map<Object, Object> seen) throws IllegalAccessException {
    if (o == null || seen.put(o, o) != null) return 0;
    long fields = 0;
    if (o.getClass().isArray()) {
      fields += Array.getLength(o);
      if (o.getClass().getComponentType().isPrimitive()) return fields;
      for (int i = 0; i < Array.getLength(o); i++) fields += walk(Array.get(o, i), seen);
      return fields;
    }
    for (Field f : o.getClass().getDeclaredFields()) {
      if (Modifier.isStatic(f.getModifiers())) continue;
      fields++;
      f.setAccessible(true);
      if (!f.getType().isPrimitive()) fields += walk(f.get(o), seen);
    }
    return fields;
  }

  /** The machine may spare what is made and dropped at once, so the meter alone does not see all of it. */
  private static void source() throws IOException {
    for (String line : Files.readAllLines(Path.of("src/main/java/ChildCoins.java"))) {
      boolean makes = line.replaceAll("//.*", "").matches(".*\\bnew\\b.*|.*\\bclone\\b.*|.*\\bcopyOf.*");
      boolean isField = line.matches(" +private (final )?[\\w\\[\\]]+ \\w+ = .*");
      check.due("made in a call: " + line, makes && !isField ? 1 : 0, 0);
    }
  }

  /** The first rounds load what the machine itself needs; behind these nothing may be made. */
  private static void calls() {
    ThreadMXBean meter = (ThreadMXBean) ManagementFactory.getThreadMXBean();
    ChildCoins x = new ChildCoins();
    long answers = 0;
    long least = Long.MAX_VALUE;
    for (int i = 0; i < ROUNDS; i++) {
      long before = meter.getThreadAllocatedBytes(Thread.currentThread().getId());
      answers += round(x);
      long after = meter.getThreadAllocatedBytes(Thread.currentThread().getId());
      least = Math.min(least, after - before);
    }
    check.due("the rounds were made", answers != 0 ? 1 : 0, 1);
    long idle = meter.getThreadAllocatedBytes(Thread.currentThread().getId());
    idle = meter.getThreadAllocatedBytes(Thread.currentThread().getId()) - idle;
    check.due("bytes made by a round of all calls", least - idle, 0);
  }

  private static long round(ChildCoins x) {
    long s = x.clear();
    for (int i = 0; i < LARGEST.length(); i++) s += x.type(LARGEST.charAt(i));
    s += x.land() + x.type('c') + x.land() + x.keep(0);
    for (int a = -1; a < 7; a++) {
      s += x.person(a, 3) + x.now(a) + x.order(a) + x.lender(a) + x.corner(a) + x.took(a) + x.years(a) + x.count(a);
      for (int b = -1; b < 7; b++) s += x.coin(a, b) + x.holds(a, b) + x.debt(a, b) + x.pieces(a, b) + x.mark(a, b) + x.odds(a, b, 0);
    }
    for (int a = 0; a < 5; a++) {
      s += x.finds(a, a) + x.loses(a, 0) + x.passes(a, 4) + x.pays(a) + x.trades(a, 1, a + 1, 2) + x.undo() + x.order(-1);
    }
    return s + x.keep(1) + x.back(0) + x.undo() + x.forget() + x.trace();
  }
}
