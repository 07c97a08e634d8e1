/** Promises 9 to 15: pays, trades, loses, finds, passes, undo, now. */
public final class DoneTest {
  private static final int BAD = ChildCoins.BAD, STATE = ChildCoins.STATE, NONE = ChildCoins.NONE;
  private static final Check check = new Check("DoneTest");

  public static void main(String[] args) {
    paying();
    payingBeyond99();
    trading();
    tradingBeyond99();
    losingAndFinding();
    passing();
    undoing();
    undoingEach();
    tenAreKnown();
    present();
    check.end();
  }

  private static void paying() {
    ChildCoins x = Check.land("c7 5;c7 2;c8 5;p0;p0;h0 0 1;h0 1 9;h0 2 9;h1 0 9;d0 1 11;d1 0 60;d0 1 14;s1;");
    check.due("pieces ahead", x.debt(0, 4), 4);
    check.due("pays(0)", x.pays(0), 4);
    check.due("debtor's 0", x.holds(0, 0), 0);
    check.due("debtor's 1", x.holds(0, 1), 6);
    check.due("debtor's 2, which doesn't do", x.holds(0, 2), 9);
    check.due("creditor's 0, above 9", x.holds(1, 0), 10);
    check.due("creditor's 1", x.holds(1, 1), 3);
    check.due("closed", x.debt(0, 3), 0);
    check.due("pays(0) again", x.pays(0), STATE);
    check.due("no such payment", x.pays(1), STATE);
    check.due("nothing changed", x.count(5), 1);
    check.due("pieces of a closed debt", x.debt(0, 4), NONE);
    check.due("pays(2)", x.pays(2), STATE);
    x.finds(0, 1);
    check.due("pays(2) by a found one", x.pays(2), 7);
    check.due("pays(-1)", x.pays(-1), BAD);
    check.due("pays(3)", x.pays(3), BAD);
  }

  private static void payingBeyond99() {
    ChildCoins x = Check.land("c7 1;p0;p0;p0;h0 0 2;h1 0 9;d0 1 2;");
    for (int i = 10; i <= 98; i++) check.due("finds to " + i, x.finds(1, 0), i);
    check.due("heirs that could take it", x.debt(0, 6), 4);
    check.due("order with 98", x.order(-1), 0);
    check.due("pieces all the same", x.debt(0, 4), 2);
    check.due("pays to 100", x.pays(0), STATE);
    check.due("still open", x.debt(0, 3), 1);
    check.due("loses", x.loses(1, 0), 97);
    check.due("order with 97", x.order(-1), 1);
    check.due("pays to 99", x.pays(0), 2);
    check.due("holds 99", x.holds(1, 0), 99);
    check.due("finds at 99", x.finds(1, 0), STATE);
  }

  private static void trading() {
    ChildCoins x = Check.land("c7 2;c8 2;c9 3;p0;p1;h0 0 1;h0 2 1;h1 1 2;");
    check.due("alike people", x.trades(0, 0, 0, 1), BAD);
    check.due("alike coins", x.trades(0, 0, 1, 0), BAD);
    check.due("p -1", x.trades(-1, 0, 1, 1), BAD);
    check.due("p 2", x.trades(2, 0, 1, 1), BAD);
    check.due("c -1", x.trades(0, -1, 1, 1), BAD);
    check.due("c 3", x.trades(0, 3, 1, 1), BAD);
    check.due("q -1", x.trades(0, 0, -1, 1), BAD);
    check.due("q 2", x.trades(0, 0, 2, 1), BAD);
    check.due("e -1", x.trades(0, 0, 1, -1), BAD);
    check.due("e 3", x.trades(0, 0, 1, 3), BAD);
    check.due("unlike worth", x.trades(0, 2, 1, 1), STATE);
    check.due("first holds none", x.trades(0, 1, 1, 0), STATE);
    check.due("trades", x.trades(0, 0, 1, 1), 1);
    check.due("0 has 0", x.holds(0, 0), 0);
    check.due("0 has 1", x.holds(0, 1), 1);
    check.due("1 has 0", x.holds(1, 0), 1);
    check.due("1 has 1", x.holds(1, 1), 1);
    check.due("trades again", x.trades(0, 0, 1, 1), STATE);
    check.due("one is known", x.count(5), 1);
  }

  private static void tradingBeyond99() {
    ChildCoins x = Check.land("c7 2;c8 2;p0;p1;h0 0 9;h0 1 9;h1 1 9;h1 0 0;");
    for (int i = 10; i <= 99; i++) x.finds(0, 1);
    check.due("first would hold 100", x.trades(0, 0, 1, 1), STATE);
    check.due("second would hold 100", x.trades(1, 1, 0, 0), STATE);
    check.due("loses", x.loses(0, 1), 98);
    check.due("trades to 99", x.trades(0, 0, 1, 1), 99);
    check.due("back", x.trades(0, 1, 1, 0), 9);
  }

  private static void losingAndFinding() {
    ChildCoins x = Check.land("c7 2;p0;h0 0 2;");
    check.due("loses", x.loses(0, 0), 1);
    check.due("loses", x.loses(0, 0), 0);
    check.due("loses none", x.loses(0, 0), STATE);
    check.due("finds", x.finds(0, 0), 1);
    int[][] bad = {{-1, 0}, {1, 0}, {0, -1}, {0, 1}};
    for (int[] b : bad) {
      check.due("loses bad", x.loses(b[0], b[1]), BAD);
      check.due("finds bad", x.finds(b[0], b[1]), BAD);
    }
    check.due("three are known", x.count(5), 3);
  }

  private static void passing() {
    ChildCoins x = Check.land("c7 2;p0;p0;p0;h0 0 2;d0 1 2;d0 1 2;");
    check.due("to the debtor", x.passes(0, 0), STATE);
    check.due("to the creditor", x.passes(0, 1), STATE);
    check.due("d -1", x.passes(-1, 2), BAD);
    check.due("d 2", x.passes(2, 2), BAD);
    check.due("p -1", x.passes(0, -1), BAD);
    check.due("p 3", x.passes(0, 3), BAD);
    check.due("passes", x.passes(0, 2), 1);
    check.due("creditor", x.debt(0, 1), 2);
    check.due("passes on", x.passes(0, 1), 2);
    check.due("pays", x.pays(0), 1);
    check.due("closed", x.passes(0, 2), STATE);
    check.due("the other", x.debt(1, 1), 1);
  }

  private static void undoing() {
    ChildCoins x = Check.land("c7 2;c7 2;p0;p0;p0;h0 0 2;h1 1 1;d0 1 2;");
    check.due("nothing", x.undo(), STATE);
    x.passes(0, 2);
    x.trades(0, 0, 1, 1);
    x.pays(0);
    x.loses(2, 1);
    x.finds(2, 0);
    x.took(0);
    x.type(32);
    check.due("five are known", x.count(5), 5);
    check.due("undo finds", x.undo(), 4);
    check.due("2 has 0", x.holds(2, 0), 0);
    check.due("undo loses", x.undo(), 3);
    check.due("undo pays", x.undo(), 2);
    check.due("open", x.debt(0, 3), 1);
    check.due("0 has 1", x.holds(0, 1), 1);
    check.due("undo trades", x.undo(), 1);
    check.due("0 has 0", x.holds(0, 0), 2);
    check.due("1 has 1", x.holds(1, 1), 1);
    check.due("undo passes", x.undo(), 0);
    check.due("creditor", x.debt(0, 1), 1);
    check.due("no more", x.undo(), STATE);
    check.due("took stays", x.count(4), 1);
    check.due("text stays", x.count(6), 1);
  }

  private static void undoingEach() {
    ChildCoins x = Check.land("c7 2;p0;p0;h0 0 2;d0 1 2;");
    check.due("pays", x.pays(0), 1);
    check.due("1 has", x.holds(1, 0), 1);
    check.due("undo", x.undo(), 0);
    check.due("1 has none", x.holds(1, 0), 0);
    check.due("0 has two", x.holds(0, 0), 2);
    check.due("pays anew", x.pays(0), 1);
    check.due("refused ones aren't known", x.pays(0), STATE);
    check.due("one is known", x.count(5), 1);
  }

  private static void tenAreKnown() {
    ChildCoins x = Check.land("c7 2;p0;");
    for (int i = 1; i <= 13; i++) check.due("finds", x.finds(0, 0), i);
    check.due("ten are known", x.count(5), 10);
    for (int i = 9; i >= 0; i--) {
      check.due("undo", x.undo(), i);
      check.due("holds", x.holds(0, 0), i + 3);
    }
    check.due("older are lost", x.undo(), STATE);
  }

  private static void present() {
    ChildCoins x = Check.land("c7 2;c8 3;p0;p1;h0 0 3;h1 1 2;d0 1 6;d1 0 6;d0 1 7;s1;");
    check.due("open", x.now(0), 7);
    check.due("helpless", x.now(1), 4);
    check.due("worth", x.now(2), 12);
    check.due("sums", x.now(3), 19);
    check.due("-1", x.now(-1), BAD);
    check.due("4", x.now(4), BAD);
    x.loses(1, 1);
    check.due("helpless then", x.now(1), 5);
    x.finds(0, 1);
    x.finds(0, 1);
    check.due("pays", x.pays(0), 2);
    check.due("open then", x.now(0), 6);
    check.due("sums then", x.now(3), 13);
    check.due("worth then", x.now(2), 15);
    x.loses(1, 1);
    x.loses(1, 1);
    check.due("only open ones are helpless", x.now(1), 4);
  }
}
