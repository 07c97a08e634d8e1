import java.util.Random;

/** Many runs of calls by lot, always the same ones, on the class and on the plain model: the answers are alike. */
public final class ModelTest {
  private static final Check check = new Check("ModelTest");
  private static final int RUNS = 1500, CALLS = 512;
  private static Random lot;
  private static ChildCoins x;
  private static PlainModel m;
  private static int run;

  public static void main(String[] args) {
    for (run = 0; run < RUNS; run++) {
      lot = new Random(run);
      x = new ChildCoins();
      m = new PlainModel();
      int left = CALLS;
      left -= tell(run % 5 == 4);
      boolean rich = run % 7 == 3;
      while (left > 0) left -= step(rich);
    }
    check.end();
  }

  private static void same(String call, long got, long want) {
    check.due("run " + run + " " + call, got, want);
  }

  private static int upTo(int n) { return lot.nextInt(n + 1); }

  /** Mostly a number that may be, now and then one below or above. */
  private static int pick(int n) { return lot.nextInt(12) == 0 ? lot.nextInt(n + 3) - 1 : lot.nextInt(n); }

  private static String landText() {
    int coins = lot.nextInt(8) == 0 ? upTo(7) : 3 + upTo(3);
    int people = lot.nextInt(8) == 0 ? upTo(6) : 2 + upTo(3);
    int debts = lot.nextInt(8) == 0 ? upTo(6) : 2 + upTo(3);
    int year = lot.nextInt(4) == 0 ? upTo(40) : 15;
    int width = 1 + upTo(15);
    StringBuilder s = new StringBuilder();
    if (lot.nextInt(3) == 0) s.append("s").append(1 + upTo(19)).append(";");
    for (int i = 0; i < coins; i++) s.append("c").append(Math.min(60, year + upTo(width))).append(" ").append(1 + upTo(8)).append(";");
    for (int i = 0; i < people; i++) s.append("p").append(Math.max(0, Math.min(60, year - 7 + upTo(width)))).append(";");
    for (int i = 0; i < debts && people > 1; i++) {
      int a = lot.nextInt(people);
      s.append("d").append(a).append(" ").append((a + 1 + lot.nextInt(people - 1)) % people).append(" ");
      s.append(1 + (lot.nextBoolean() ? upTo(59) : upTo(19))).append(";");
    }
    int many = upTo(people * coins);
    for (int i = 0; i < many && people > 0 && coins > 0 && s.length() < 172; i++) {
      s.append("h").append(lot.nextInt(people)).append(" ").append(lot.nextInt(coins)).append(" ").append(upTo(9)).append(";");
    }
    return s.toString();
  }

  private static int tell(boolean spoil) {
    StringBuilder s = new StringBuilder(landText());
    if (spoil) {
      String signs = "cphds0123456789;; ;xC?-" + (char) 0 + (char) 255;
      for (int i = 1 + upTo(2); i > 0 && s.length() > 0; i--) {
        int at = lot.nextInt(s.length());
        char sign = signs.charAt(lot.nextInt(signs.length()));
        switch (lot.nextInt(4)) {
          case 0: s.setCharAt(at, sign); break;
          case 1: s.insert(at, sign); break;
          case 2: s.deleteCharAt(at); break;
          default: s.setLength(at); break;
        }
      }
    }
    for (int i = 0; i < s.length(); i++) same("type", x.type(s.charAt(i)), m.type(s.charAt(i)));
    same("land of '" + s + "'", x.land(), m.land());
    if (lot.nextBoolean()) same("clear", x.clear(), m.clear());
    return s.length() + 1;
  }

  private static int step(boolean rich) {
    int a = pick(5), b = pick(6), c = pick(5), d = pick(6);
    if (rich && lot.nextInt(3) > 0) {
      same("finds", x.finds(0, 0), m.finds(0, 0));
      return 1;
    }
    switch (lot.nextInt(30)) {
      case 0: same("coin", x.coin(b, c - 1), m.coin(b, c - 1)); break;
      case 1: same("person", x.person(a, c - 1), m.person(a, c - 1)); break;
      case 2: same("holds", x.holds(a, b), m.holds(a, b)); break;
      case 3: case 4: case 5: case 6: { int what = pick(7); same("debt(" + a + ", " + what + ")", x.debt(a, what), m.debt(a, what)); break; }
      case 7: case 8: same("pays", x.pays(a), m.pays(a)); break;
      case 9: case 10: same("trades", x.trades(a, b, c, d), m.trades(a, b, c, d)); break;
      case 11: same("loses", x.loses(a, b), m.loses(a, b)); break;
      case 12: case 13: same("finds", x.finds(a, b), m.finds(a, b)); break;
      case 14: same("passes", x.passes(a, c), m.passes(a, c)); break;
      case 15: case 16: same("undo", x.undo(), m.undo()); break;
      case 17: same("now", x.now(c - 1), m.now(c - 1)); break;
      case 18: same("pieces", x.pieces(a, b), m.pieces(a, b)); break;
      case 19: { int i = lot.nextInt(8) - 2; same("order(" + i + ")", x.order(i), m.order(i)); break; }
      case 20: same("lender", x.lender(a), m.lender(a)); break;
      case 21: same("corner", x.corner(a), m.corner(a)); break;
      case 22: { int part = pick(11), what = pick(2); same("odds", x.odds(a, part, what), m.odds(a, part, what)); break; }
      case 23: same("took", x.took(b), m.took(b)); break;
      case 24: same("years", x.years(c - 1), m.years(c - 1)); if (lot.nextInt(3) == 0) same("forget", x.forget(), m.forget()); break;
      case 25: same("mark", x.mark(d, b), m.mark(d, b)); same("trace", x.trace(), m.trace()); break;
      case 26: { int i = pick(2); same("keep", x.keep(i), m.keep(i)); break; }
      case 27: { int i = pick(2); same("back", x.back(i), m.back(i)); break; }
      case 28: { int i = pick(7); same("count", x.count(i), m.count(i)); break; }
      default: if (lot.nextInt(20) == 0) return tell(lot.nextInt(3) > 0); break;
    }
    return 1;
  }
}
