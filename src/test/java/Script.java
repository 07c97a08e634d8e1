import java.lang.reflect.Method;
import java.util.ArrayList;
import java.util.Arrays;
import java.util.List;
import java.util.Set;

/**
 * Runs calls that are told as lines, each with the answer that is due:
 *   pays 0 = 4              a call; BAD, STATE, FULL, NONE, NO stand for their numbers
 *   finds 1 0 x90 = 99      a call made 90 times, with the last answer
 *   tell c7 1;p0; = 2       a text typed and read; FAULT 3 is -13
 *   write c7 1; = 5         a text typed alone
 * A call that is refused, or that only asks, must change nothing: an object that got the call and one that did
 * not go on alike, whatever is called next.
 */
final class Script {
  private static final int MOST_CALLS = 512, PICTURE_CALLS = 124;
  private static final Set<String> ASKING = Set.of("coin", "person", "holds", "debt", "now", "pieces", "order",
      "lender", "corner", "odds", "years", "count", "trace");
  private static final List<String> REFUSALS = List.of("BAD", "STATE", "FULL", "NO");

  private final Check check;
  private final String title;
  private final List<String> made = new ArrayList<>();

  private Script(Check check, String title) {
    this.check = check;
    this.title = title;
  }

  static void run(Check check, String title, String... lines) {
    Script script = new Script(check, title);
    ChildCoins x = new ChildCoins();
    int[] calls = {0};
    for (String line : lines) script.step(x, calls, line);
  }

  /** One number of a call, written ?, may be low .. high: the numbers next to these, and the farthest, are refused. */
  static void sides(Check check, String title, String[] ahead, String call, int low, int high) {
    String refused = call.startsWith("mark ") ? "NO" : "BAD";
    for (long n : new long[] {Integer.MIN_VALUE, low - 1L, high + 1L, Integer.MAX_VALUE}) {
      run(check, title, with(ahead, call.replace("?", "" + n) + " = " + refused));
    }
    for (int n : new int[] {low, high}) {
      ChildCoins x = new ChildCoins();
      int[] calls = {0};
      for (String line : ahead) make(x, calls, line.substring(0, line.lastIndexOf(" = ")));
      long got = make(x, calls, call.replace("?", "" + n));
      check.due(title + ": " + call + " is refused with " + n, got == number(refused) ? 1 : 0, 0);
    }
  }

  static String[] with(String[] ahead, String... lines) {
    String[] all = Arrays.copyOf(ahead, ahead.length + lines.length);
    System.arraycopy(lines, 0, all, ahead.length, lines.length);
    return all;
  }

  private void step(ChildCoins x, int[] calls, String line) {
    int at = line.lastIndexOf(" = ");
    String call = line.substring(0, at);
    String answer = line.substring(at + 3);
    check.due(title + ": " + call + " behind " + made, make(x, calls, call), number(answer));
    String name = call.split(" ")[0];
    if (name.equals("tell") && answer.startsWith("FAULT ")) {
      made.add("write" + call.substring(4));
      changesNothing("land");
      return;
    }
    if (REFUSALS.contains(answer) || ASKING.contains(name)) changesNothing(call);
    made.add(call);
  }

  private static long number(String answer) {
    if (answer.startsWith("FAULT ")) return -10 - Long.parseLong(answer.substring(6));
    switch (answer) {
      case "BAD": return -1;
      case "STATE": return -2;
      case "FULL": return -3;
      case "NONE": return -9;
      case "NO": return -1000000;
      default: return Long.parseLong(answer);
    }
  }

  // ---- nothing changes

  private void changesNothing(String call) {
    List<String[]> next = new ArrayList<>();
    next.add(new String[0]);
    for (int many = 1; many <= 11; many++) next.add(new String[] {"undo x" + many});
    for (int image = 0; image < 2; image++) {
      for (int many = 1; many <= 10; many += 3) next.add(new String[] {"back " + image, "undo x" + many});
      next.add(new String[] {"back " + image});
    }
    next.add(new String[] {"land"});
    for (String[] calls : next) {
      String without = story(null, calls);
      String with = story(call, calls);
      if (with.equals(without)) continue;
      check.due(title + ": " + call + " behind " + made + " changes what comes behind " + Arrays.toString(calls), 1, 0);
      return;
    }
    check.due(title + ": " + call + " changes nothing", 0, 0);
  }

  private String story(String call, String[] next) {
    ChildCoins x = new ChildCoins();
    int[] calls = {0};
    for (String line : made) make(x, calls, line);
    if (call != null) make(x, calls, call);
    StringBuilder s = new StringBuilder();
    for (String line : next) s.append(make(x, calls, line)).append(' ');
    picture(x, s);
    if (calls[0] + PICTURE_CALLS > MOST_CALLS) throw new IllegalStateException("too many calls: " + title);
    return s.toString();
  }

  private static void picture(ChildCoins x, StringBuilder s) {
    int[] counts = new int[7];
    for (int what = 0; what < 7; what++) {
      counts[what] = x.count(what);
      s.append(counts[what]).append(' ');
    }
    for (int c = 0; c < counts[0]; c++) {
      for (int what = 0; what < 4; what++) s.append(x.coin(c, what)).append(' ');
    }
    for (int p = 0; p < counts[1]; p++) {
      for (int what = 0; what < 4; what++) s.append(x.person(p, what)).append(' ');
      for (int c = 0; c < counts[0]; c++) s.append(x.holds(p, c)).append(' ');
    }
    for (int d = 0; d < counts[2]; d++) {
      for (int what = 0; what < 7; what++) s.append(x.debt(d, what)).append(' ');
    }
    for (int what = 0; what < 4; what++) s.append(x.now(what)).append(' ');
    for (int what = 0; what < 3; what++) s.append(x.years(what)).append(' ');
    s.append(x.trace());
  }

  // ---- calls

  private static long make(ChildCoins x, int[] calls, String call) {
    if (call.startsWith("tell ")) {
      type(x, calls, call.substring(5));
      return make(x, calls, "land");
    }
    if (call.startsWith("write ")) return type(x, calls, call.substring(6));
    String[] words = call.split(" ");
    int end = words.length;
    int times = 1;
    if (words[end - 1].startsWith("x")) {
      end--;
      times = Integer.parseInt(words[end].substring(1));
    }
    Object[] numbers = new Object[end - 1];
    for (int i = 1; i < end; i++) numbers[i - 1] = Integer.parseInt(words[i]);
    long answer = 0;
    for (int i = 0; i < times; i++) answer = invoke(x, words[0], numbers);
    calls[0] += times;
    if (calls[0] > MOST_CALLS) throw new IllegalStateException("too many calls: " + call);
    return answer;
  }

  private static long type(ChildCoins x, int[] calls, String text) {
    long answer = 0;
    for (int i = 0; i < text.length(); i++) answer = x.type(text.charAt(i));
    calls[0] += text.length();
    return answer;
  }

  private static long invoke(ChildCoins x, String name, Object[] numbers) {
    Class<?>[] kinds = new Class<?>[numbers.length];
    Arrays.fill(kinds, int.class);
    try {
      Method method = ChildCoins.class.getMethod(name, kinds);
      return ((Number) method.invoke(x, numbers)).longValue();
    } catch (ReflectiveOperationException e) {
      throw new IllegalStateException(name + Arrays.toString(numbers), e);
    }
  }
}
