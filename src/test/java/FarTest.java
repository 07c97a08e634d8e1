import java.lang.reflect.InvocationTargetException;
import java.lang.reflect.Method;
import java.lang.reflect.Modifier;
import java.util.ArrayList;
import java.util.Arrays;
import java.util.Comparator;
import java.util.List;
import java.util.Random;

/** Every call with every mixture of numbers near and far, in states of every sort: nothing is thrown, all is as PlainModel has it. */
public final class FarTest {
  private static final Check check = new Check("FarTest");
  private static final int[] MANY = {Integer.MIN_VALUE, Integer.MIN_VALUE + 1, -1000000, -257, -10, -9, -2, -1, 0, 1, 2, 3, 4, 5, 6, 7, 9, 10,
    11, 31, 32, 60, 61, 99, 100, 180, 255, 256, 1 << 16, 1 << 30, Integer.MAX_VALUE - 1, Integer.MAX_VALUE};
  private static final int[] FEW = {Integer.MIN_VALUE, -1, 0, 1, 2, 4, 5, 6, 10, 11, Integer.MAX_VALUE};
  private static final int AT_ONCE = 200, BEYOND = 20000;
  private static final String LARGEST = "c0 1;c7 2;c7 2;c8 3;c60 9;c7 9;p0;p0;p0;p1;p60;h0 0 9;h0 1 9;h0 2 9;h1 2 9;h3 3 9;h4 4 9;h0 5 9;"
      + "d0 1 60;d0 2 7;d3 0 9;d1 3 4;d4 0 1;";

  /** A text to be read, then calls, each of them its name and its numbers. */
  private static final String[][] STATES = {
    {null},
    {null, "type 99", "type 55", "keep 0", "keep 1"},
    {""},
    {"p0;p1;d0 1 9;s20;", "passes 0 0", "keep 0"},
    {"c7 1;c8 2;", "took 0", "took 1"},
    {LARGEST, "type 99", "keep 0"},
    {LARGEST, "keep 1", "pays 0", "passes 1 3", "finds 4 5", "loses 0 1", "trades 0 1 1 2", "took 0", "took 1", "took 2", "took 3", "took 4",
      "took 5", "keep 0", "undo"},
    {LARGEST, "finds 2 5 x90", "finds 1 1 x99", "pays 2", "mark 5 0"},
  };

  public static void main(String[] args) {
    for (String[] state : STATES) {
      for (Method m : calls()) everyMixture(state, m);
    }
    fullText();
    farBeyondItsCalls();
    check.end();
  }

  private static List<Method> calls() {
    List<Method> all = new ArrayList<>();
    for (Method m : ChildCoins.class.getDeclaredMethods()) {
      if (Modifier.isPublic(m.getModifiers())) all.add(m);
    }
    // reflection tells them in no order of its own
    all.sort(Comparator.comparing(Method::getName));
    return all;
  }

  private static void everyMixture(String[] state, Method m) {
    int many = m.getParameterCount();
    int[] from = many < 3 ? MANY : FEW;
    int mixtures = 1;
    for (int i = 0; i < many; i++) mixtures *= from.length;
    Pair pair = new Pair(state);
    for (int k = 0; k < mixtures; k++) {
      if (k % AT_ONCE == 0) pair = new Pair(state);
      int[] numbers = new int[many];
      for (int i = 0, rest = k; i < many; i++, rest /= from.length) numbers[i] = from[rest % from.length];
      pair.call(m.getName(), numbers);
    }
    pair.picture();
  }

  private static void fullText() {
    Pair pair = new Pair(new String[] {null});
    for (int i = 0; i < 190; i++) pair.call("type", i % 2 == 0 ? ' ' : 255);
    for (int n : MANY) pair.call("type", n);
    pair.call("land");
    pair.call("clear");
    pair.call("land");
  }

  /** Its answers are free then, but it must go on to answer. */
  private static void farBeyondItsCalls() {
    Random lot = new Random(7);
    List<Method> calls = calls();
    for (String[] state : STATES) {
      Pair pair = new Pair(state);
      for (int i = 0; i < BEYOND; i++) {
        Method m = calls.get(lot.nextInt(calls.size()));
        int[] from = lot.nextInt(4) == 0 ? MANY : FEW;
        int[] numbers = new int[m.getParameterCount()];
        for (int k = 0; k < numbers.length; k++) numbers[k] = from[lot.nextInt(from.length)];
        answer(pair.x, m.getName(), numbers);
      }
      check.due("it goes on to answer", 0, 0);
    }
  }

  private static long answer(Object of, String name, int... numbers) {
    Object[] boxed = Arrays.stream(numbers).boxed().toArray();
    Class<?>[] kinds = new Class<?>[numbers.length];
    Arrays.fill(kinds, int.class);
    try {
      return ((Number) of.getClass().getDeclaredMethod(name, kinds).invoke(of, boxed)).longValue();
    } catch (InvocationTargetException e) {
      check.due(name + Arrays.toString(numbers) + " throws " + e.getCause(), 1, 0);
      return 0;
    } catch (ReflectiveOperationException e) {
      throw new IllegalStateException(name, e);
    }
  }

  /** The class and the model, which get the same calls. */
  private static final class Pair {
    private final ChildCoins x = new ChildCoins();
    private final PlainModel model = new PlainModel();
    private final String state;

    Pair(String[] state) {
      this.state = Arrays.toString(state);
      if (state[0] != null) {
        for (char c : state[0].toCharArray()) call("type", c);
        call("land");
      }
      for (int i = 1; i < state.length; i++) {
        String[] words = state[i].split(" x");
        int times = words.length > 1 ? Integer.parseInt(words[1]) : 1;
        String[] parts = words[0].split(" ");
        int[] numbers = Arrays.stream(parts).skip(1).mapToInt(Integer::parseInt).toArray();
        for (int k = 0; k < times; k++) call(parts[0], numbers);
      }
    }

    void call(String name, int... numbers) {
      check.due(state + " " + name + Arrays.toString(numbers), answer(x, name, numbers), answer(model, name, numbers));
    }

    void picture() {
      for (int what = 0; what < 7; what++) call("count", what);
      for (int what = 0; what < 4; what++) call("now", what);
      for (int p = 0; p < 5; p++) {
        for (int c = 0; c < 6; c++) call("holds", p, c);
      }
      for (int d = 0; d < 5; d++) call("debt", d, 1);
      call("trace");
    }
  }
}
