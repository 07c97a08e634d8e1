import java.util.ArrayDeque;
import java.util.ArrayList;
import java.util.Arrays;
import java.util.Deque;
import java.util.List;

/** The document in its plainest form: everything by trying all there is. Shares no code with the class. */
final class PlainModel {
  static final int BAD = -1, STATE = -2, FULL = -3, NONE = -9, NO = -1000000;

  record Now(int[][] holds, int[] creditor, boolean[] open) {
    Now copy() {
      int[][] h = new int[holds.length][];
      for (int i = 0; i < h.length; i++) h[i] = holds[i].clone();
      return new Now(h, creditor.clone(), open.clone());
    }
  }

  record Image(Now now, List<Now> past) {}

  private StringBuilder text = new StringBuilder();
  private List<int[]> coins = new ArrayList<>();
  private List<Integer> people = new ArrayList<>();
  private List<int[]> debts = new ArrayList<>();
  private int span = 9;
  private Now now = new Now(new int[0][0], new int[0], new boolean[0]);
  private Deque<Now> past = new ArrayDeque<>();
  private final Image[] images = new Image[2];
  private final List<Integer> took = new ArrayList<>();
  private long trace = 0;

  private boolean isCoin(int c) { return 0 <= c && c < coins.size(); }
  private boolean isPerson(int p) { return 0 <= p && p < people.size(); }
  private boolean isDebt(int d) { return 0 <= d && d < debts.size(); }

  int type(int c) {
    if (c < 0 || c > 255) return BAD;
    if (text.length() == 180) return FULL;
    text.append((char) c);
    return text.length();
  }

  int clear() { int n = text.length(); text = new StringBuilder(); return n; }

  // ---- the text: first all tokens with their places, then the grammar over them

  private record Token(String word, int place) {}

  private List<Token> tokens() {
    List<Token> all = new ArrayList<>();
    String s = text.toString();
    var m = java.util.regex.Pattern.compile("[a-z]+|[0-9]+|;|[^ ]", java.util.regex.Pattern.DOTALL).matcher(s);
    while (m.find()) all.add(new Token(m.group(), m.start()));
    all.add(new Token("", s.length()));
    return all;
  }

  int land() {
    List<Token> t = tokens();
    List<int[]> newCoins = new ArrayList<>();
    List<Integer> newPeople = new ArrayList<>();
    List<int[]> newDebts = new ArrayList<>();
    int[][] told = new int[5][6];
    int newSpan = -1;
    int items = 0;
    int i = 0;
    while (!t.get(i).word.isEmpty()) {
      String name = t.get(i).word;
      int[][] ranges;
      if (name.equals("c") && newCoins.size() < 6) ranges = new int[][] {{0, 60}, {1, 9}};
      else if (name.equals("p") && newPeople.size() < 5) ranges = new int[][] {{0, 60}};
      else if (name.equals("h")) ranges = new int[][] {{0, newPeople.size() - 1}, {0, newCoins.size() - 1}, {0, 9}};
      else if (name.equals("d") && newDebts.size() < 5) ranges = new int[][] {{0, newPeople.size() - 1}, {0, newPeople.size() - 1}, {1, 60}};
      else if (name.equals("s") && newSpan < 0) ranges = new int[][] {{1, 20}};
      else return -10 - t.get(i).place;
      i++;
      int[] v = new int[ranges.length];
      for (int k = 0; k < v.length; k++, i++) {
        if (!t.get(i).word.matches("0|[1-9][0-9]?")) return -10 - t.get(i).place;
        v[k] = Integer.parseInt(t.get(i).word);
        if (v[k] < ranges[k][0] || v[k] > ranges[k][1]) return -10 - t.get(i).place;
        if (name.equals("d") && k == 1 && v[0] == v[1]) return -10 - t.get(i).place;
      }
      if (!t.get(i).word.equals(";")) return -10 - t.get(i).place;
      i++;
      items++;
      switch (name) {
        case "c" -> newCoins.add(v);
        case "p" -> newPeople.add(v[0]);
        case "h" -> told[v[0]][v[1]] = v[2];
        case "d" -> newDebts.add(v);
        default -> newSpan = v[0];
      }
    }
    coins = newCoins;
    people = newPeople;
    debts = newDebts;
    span = newSpan < 0 ? 9 : newSpan;
    int[] creditors = new int[debts.size()];
    boolean[] open = new boolean[debts.size()];
    for (int d = 0; d < open.length; d++) { creditors[d] = debts.get(d)[1]; open[d] = true; }
    int[][] holds = new int[people.size()][];
    for (int p = 0; p < holds.length; p++) holds[p] = Arrays.copyOf(told[p], coins.size());
    now = new Now(holds, creditors, open);
    past = new ArrayDeque<>();
    images[0] = images[1] = null;
    took.clear();
    text = new StringBuilder();
    return items;
  }

  private boolean aboutIn(int c, int year) {
    for (int k = 0; k < span; k++) if (coins.get(c)[0] + k == year) return true;
    return false;
  }
  private boolean does(int c, int p) { return aboutIn(c, people.get(p) + 7); }
  private int worth(int c) { return coins.get(c)[1]; }
  private int inAll(Now n, int c) { int s = 0; for (int[] h : n.holds) s += h[c]; return s; }
  private int openMany() { return Integer.bitCount(now(0)); }

  int coin(int c, int what) {
    if (!isCoin(c) || what < 0 || what > 3) return BAD;
    if (what < 2) return coins.get(c)[what];
    if (what == 3) return inAll(now, c);
    int bits = 0;
    for (int p = 0; p < people.size(); p++) if (does(c, p)) bits += 1 << p;
    return bits;
  }

  int person(int p, int what) {
    if (!isPerson(p) || what < 0 || what > 3) return BAD;
    if (what == 0) return people.get(p);
    int bits = 0, wealth = 0, ease = 0;
    for (int c = 0; c < coins.size(); c++) {
      wealth += now.holds[p][c] * worth(c);
      if (does(c, p)) { bits += 1 << c; ease += inAll(now, c) * worth(c); }
    }
    return what == 1 ? bits : what == 2 ? wealth : ease;
  }

  int holds(int p, int c) { return isPerson(p) && isCoin(c) ? now.holds[p][c] : BAD; }

  // ---- payments: every way to lay the sum is tried, from coin 0 on

  private int[] bestPayment(int[] stock, int sum) {
    int[][] best = new int[1][];
    tryAll(stock, sum, 0, new int[stock.length], best);
    return best[0];
  }

  private void tryAll(int[] stock, int rest, int c, int[] used, int[][] best) {
    if (c == stock.length) {
      // the ways come in the order that ties are broken in
      if (rest == 0 && (best[0] == null || sumOf(used) < sumOf(best[0]))) best[0] = used.clone();
      return;
    }
    for (int n = 0; n <= stock[c] && n * worth(c) <= rest; n++) {
      used[c] = n;
      tryAll(stock, rest - n * worth(c), c + 1, used, best);
    }
    used[c] = 0;
  }

  private static int sumOf(int[] a) { return Arrays.stream(a).sum(); }

  private int[] payment(Now n, int d, int creditor) {
    int[] stock = new int[coins.size()];
    for (int c = 0; c < stock.length; c++) if (does(c, creditor)) stock[c] = n.holds[debts.get(d)[0]][c];
    return bestPayment(stock, debts.get(d)[2]);
  }

  private Now paid(Now n, int d, int creditor) {
    if (!n.open[d]) return null;
    int[] pay = payment(n, d, creditor);
    if (pay == null) return null;
    Now then = n.copy();
    then.open[d] = false;
    for (int c = 0; c < pay.length; c++) {
      then.holds[debts.get(d)[0]][c] -= pay[c];
      then.holds[creditor][c] += pay[c];
      if (then.holds[creditor][c] > 99) return null;
    }
    return then;
  }

  private boolean world(int d, int lost) {
    boolean[] can = new boolean[61];
    can[0] = true;
    for (int c = 0; c < coins.size(); c++) {
      if ((lost >> c & 1) == 1 || !does(c, now.creditor[d])) continue;
      for (int piece = 0; piece < inAll(now, c); piece++) {
        for (int s = 60; s >= worth(c); s--) can[s] |= can[s - worth(c)];
      }
    }
    return can[debts.get(d)[2]];
  }

  int debt(int d, int what) {
    if (!isDebt(d) || what < 0 || what > 6) return BAD;
    int[] t = debts.get(d);
    switch (what) {
      case 0: return t[0];
      case 1: return now.creditor[d];
      case 2: return t[2];
      case 3: return now.open[d] ? 1 : 0;
      case 4: int[] pay = payment(now, d, now.creditor[d]); return pay == null ? NONE : sumOf(pay);
      case 5: return world(d, 0) ? 1 : 0;
      default: break;
    }
    int bits = 0;
    for (int p = 0; p < people.size(); p++) if (p != t[0] && paid(now, d, p) != null) bits += 1 << p;
    return bits;
  }

  private void change(Now then) {
    past.addLast(now);
    if (past.size() > 10) past.removeFirst();
    now = then;
  }

  int pays(int d) {
    if (!isDebt(d)) return BAD;
    Now then = paid(now, d, now.creditor[d]);
    if (then == null) return STATE;
    int many = sumOf(payment(now, d, now.creditor[d]));
    change(then);
    return many;
  }

  int trades(int p, int c, int q, int e) {
    if (!isPerson(p) || !isPerson(q) || !isCoin(c) || !isCoin(e) || p == q || c == e) return BAD;
    Now then = now.copy();
    then.holds[p][c]--;
    then.holds[q][c]++;
    then.holds[q][e]--;
    then.holds[p][e]++;
    for (int who : new int[] {p, q}) for (int n : then.holds[who]) if (n < 0 || n > 99) return STATE;
    if (worth(c) != worth(e)) return STATE;
    change(then);
    return then.holds[p][e];
  }

  private int shift(int p, int c, int by) {
    if (!isPerson(p) || !isCoin(c)) return BAD;
    int many = now.holds[p][c] + by;
    if (many < 0 || many > 99) return STATE;
    Now then = now.copy();
    then.holds[p][c] = many;
    change(then);
    return many;
  }

  int loses(int p, int c) { return shift(p, c, -1); }
  int finds(int p, int c) { return shift(p, c, 1); }

  int passes(int d, int p) {
    if (!isDebt(d) || !isPerson(p)) return BAD;
    int was = now.creditor[d];
    if (!now.open[d] || debts.get(d)[0] == p || was == p) return STATE;
    Now then = now.copy();
    then.creditor[d] = p;
    change(then);
    return was;
  }

  int undo() {
    if (past.isEmpty()) return STATE;
    now = past.removeLast();
    return past.size();
  }

  int now(int what) {
    int open = 0, helpless = 0, worth = 0, sums = 0;
    for (int d = 0; d < debts.size(); d++) {
      if (!now.open[d]) continue;
      open += 1 << d;
      sums += debts.get(d)[2];
      if (!world(d, 0)) helpless += 1 << d;
    }
    for (int c = 0; c < coins.size(); c++) worth += inAll(now, c) * worth(c);
    int[] all = {open, helpless, worth, sums};
    return what < 0 || what > 3 ? BAD : all[what];
  }

  int pieces(int d, int c) {
    if (!isDebt(d) || !isCoin(c)) return BAD;
    int[] pay = payment(now, d, now.creditor[d]);
    return pay == null ? NONE : pay[c];
  }

  private void allRows(Now n, List<Integer> row, List<List<Integer>> rows) {
    rows.add(new ArrayList<>(row));
    for (int d = debts.size() - 1; d >= 0; d--) {
      Now then = paid(n, d, n.creditor[d]);
      if (then == null) continue;
      row.add(d);
      allRows(then, row, rows);
      row.remove(row.size() - 1);
    }
  }

  int order(int i) {
    if (i < -1 || i > 4) return BAD;
    List<List<Integer>> rows = new ArrayList<>();
    allRows(now, new ArrayList<>(), rows);
    rows.sort((a, b) -> a.size() != b.size() ? b.size() - a.size() : a.toString().compareTo(b.toString()));
    List<Integer> best = rows.get(0);
    return i < 0 ? best.size() : i < best.size() ? best.get(i) : NONE;
  }

  int lender(int p) {
    if (!isPerson(p)) return BAD;
    int best = NONE;
    for (int q = people.size() - 1; q >= 0; q--) {
      if (q == p || sumOf(now.holds[q]) == 0) continue;
      if (best == NONE || person(q, 3) >= person(best, 3)) best = q;
    }
    return best;
  }

  int corner(int d) {
    if (!isDebt(d)) return BAD;
    if (!world(d, 0)) return 0;
    for (int many = 1; many <= 6; many++) {
      for (int kinds = 0; kinds < 1 << coins.size(); kinds++) {
        if (Integer.bitCount(kinds) == many && !world(d, kinds)) return kinds;
      }
    }
    throw new IllegalStateException();
  }

  int odds(int d, int x, int what) {
    if (!isDebt(d) || x < 0 || x > 10 || what < 0 || what > 1) return BAD;
    long upper = chances(d, x, 0, 0);
    long lower = 1;
    for (int c = 0; c < coins.size(); c++) lower *= 10;
    long g = java.math.BigInteger.valueOf(upper).gcd(java.math.BigInteger.valueOf(lower)).longValue();
    return (int) ((what == 0 ? upper : lower) / g);
  }

  private long chances(int d, int x, int c, int lost) {
    if (c == coins.size()) return world(d, lost) ? 1 : 0;
    return x * chances(d, x, c + 1, lost | 1 << c) + (10 - x) * chances(d, x, c + 1, lost);
  }

  int took(int c) {
    if (!isCoin(c)) return BAD;
    if (took.size() == 6) return FULL;
    took.add(c);
    return took.size();
  }

  int forget() { int n = took.size(); took.clear(); return n; }

  int years(int what) {
    List<Integer> good = new ArrayList<>();
    for (int y = 0; y <= 60; y++) {
      int born = y;
      if (took.stream().allMatch(c -> aboutIn(c, born + 7))) good.add(y);
    }
    if (what < 0 || what > 2) return BAD;
    if (what == 0) return good.size();
    if (good.isEmpty()) return NONE;
    return good.get(what == 1 ? 0 : good.size() - 1);
  }

  int mark(int kind, int c) {
    if (kind < 0 || kind > 5 || !isCoin(c)) return NO;
    int many = inAll(now, c);
    int[] value = {worth(c), worth(c) + many, worth(c) - coins.get(c)[0], 2 * (worth(c) + many),
      worth(c) - coins.get(c)[0] + Integer.bitCount(coin(c, 2)), worth(c) + openMany()};
    trace += new int[] {1, 11, 101, 1011, 10101, 100001}[kind];
    return value[kind];
  }

  int keep(int image) {
    if (image < 0 || image > 1) return BAD;
    images[image] = new Image(now, new ArrayList<>(past));
    return openMany();
  }

  int back(int image) {
    if (image < 0 || image > 1) return BAD;
    if (images[image] == null) return STATE;
    now = images[image].now;
    past = new ArrayDeque<>(images[image].past);
    return openMany();
  }

  int count(int what) {
    int[] all = {coins.size(), people.size(), debts.size(), span, took.size(), past.size(), text.length()};
    return what < 0 || what >= all.length ? BAD : all[what];
  }

  long trace() { return trace; }
}
