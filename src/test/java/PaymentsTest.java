/** Promises 16 to 20: pieces, order, lender, corner, odds. */
public final class PaymentsTest {
  private static final int BAD = ChildCoins.BAD, NONE = ChildCoins.NONE;
  private static final String RICH =
      "c0 1;c0 2;c0 3;c0 4;c0 5;c0 9;p0;p0;p0;p0;p0;h0 0 9;h0 1 9;h0 2 9;h0 3 9;h0 4 9;h0 5 9;"
      + "d0 1 60;d1 2 59;d2 3 58;d3 4 57;d4 0 56;s20;";
  private static final Check check = new Check("PaymentsTest");

  public static void main(String[] args) {
    pieces();
    piecesOfSeveral();
    order();
    orderOfSeveral();
    orderChanges();
    lender();
    corner();
    odds();
    check.end();
  }

  private static void payment(String land, int... want) {
    ChildCoins x = Check.land(land);
    int all = 0;
    for (int c = 0; c < want.length; c++) {
      check.due(land + " pieces(0, " + c + ")", x.pieces(0, c), want[c]);
      all += want[c];
    }
    check.due(land + " debt(0, 4)", x.debt(0, 4), want[0] == NONE ? NONE : all);
  }

  private static void pieces() {
    payment(RICH, 0, 0, 0, 0, 3, 5);
    payment("c0 5;c0 3;p0;p0;h0 0 3;h0 1 9;d0 1 9;", 0, 3);
    payment("c0 5;c0 3;p0;p0;h0 0 3;h0 1 2;d0 1 9;", NONE, NONE);
    payment("c0 9;p0;p0;h0 0 9;d0 1 60;", NONE);
    payment("p0;p0;c0 1;h0 0 9;d0 1 9;", 9);
    ChildCoins x = Check.land(RICH);
    check.due("pieces(-1, 0)", x.pieces(-1, 0), BAD);
    check.due("pieces(5, 0)", x.pieces(5, 0), BAD);
    check.due("pieces(0, -1)", x.pieces(0, -1), BAD);
    check.due("pieces(0, 6)", x.pieces(0, 6), BAD);
    check.due("pieces(1, 0)", x.pieces(1, 0), NONE);
    check.due("nothing is changed", x.count(5), 0);
  }

  private static void piecesOfSeveral() {
    // 10 = 5 + 5 = 1 + 9 = 4 + 6 in two pieces: none of coin 0 nor 1, then the fewest of 2
    payment("c0 1;c0 4;c0 5;c0 9;c0 6;p0;p0;h0 0 9;h0 1 9;h0 2 9;h0 3 9;h0 4 9;d0 1 10;", 0, 0, 2, 0, 0);
    // alike worth: the later ones go first
    payment("c0 2;c0 2;c0 2;p0;p0;h0 0 9;h0 1 2;h0 2 3;d0 1 12;", 1, 2, 3);
    // fewest pieces come ahead of fewest of coin 0
    payment("c0 6;c0 3;p0;p0;h0 0 1;h0 1 9;d0 1 12;", 1, 2);
  }

  private static void rowIs(String land, int... want) {
    ChildCoins x = Check.land(land);
    check.due(land + " order(-1)", x.order(-1), want.length);
    for (int i = 0; i < 5; i++) check.due(land + " order(" + i + ")", x.order(i), i < want.length ? want[i] : NONE);
    check.due("nothing is changed", x.count(5), 0);
  }

  private static void order() {
    rowIs(RICH, 0);
    rowIs("p0;p0;c0 1;");
    // 2 pays 1 pays 0: each hands on what he got
    rowIs("c0 3;p0;p0;p0;p0;h3 0 1;d0 1 3;d2 0 3;d3 2 3;", 2, 1, 0);
    // all in numbers' order
    rowIs("c0 1;p0;p0;h0 0 9;h1 0 9;d0 1 2;d1 0 3;d0 1 4;d1 0 1;d0 1 1;", 0, 1, 2, 3, 4);
    ChildCoins x = Check.land(RICH);
    check.due("order(-2)", x.order(-2), BAD);
    check.due("order(5)", x.order(5), BAD);
  }

  private static void orderOfSeveral() {
    // one coin of 3, two who could be paid: the lower one
    rowIs("c0 3;p0;p0;p0;h0 0 1;d0 1 3;d0 2 3;", 0);
    // the greater one first leaves nothing for the two lesser ones
    rowIs("c0 1;p0;p0;h0 0 5;d0 1 5;d0 1 2;d0 1 3;", 1, 2);
    // paying 0 takes the one piece that does for the creditor of 1, unless 1 is first
    rowIs("c8 5;c7 3;c7 2;p0;p1;p2;h0 0 1;h0 1 1;h0 2 1;d0 1 5;d0 2 5;s2;", 1, 0);
  }

  private static void orderChanges() {
    ChildCoins x = Check.land("c0 1;p0;p0;h0 0 5;d0 1 5;d0 1 2;d0 1 3;");
    check.due("pays", x.pays(1), 2);
    check.due("order(-1)", x.order(-1), 1);
    check.due("order(0)", x.order(0), 2);
    x.pays(2);
    check.due("order(-1) then", x.order(-1), 0);
  }

  private static void lender() {
    ChildCoins x = Check.land("c7 2;c8 3;p0;p1;p1;p0;h0 0 2;h1 1 1;h2 1 1;s1;");
    check.due("lender(0)", x.lender(0), 1);
    check.due("lender(1)", x.lender(1), 2);
    check.due("lender(2)", x.lender(2), 1);
    check.due("lender(3)", x.lender(3), 1);
    check.due("lender(-1)", x.lender(-1), BAD);
    check.due("lender(4)", x.lender(4), BAD);
    x.loses(1, 1);
    x.loses(2, 1);
    check.due("lender(1) then", x.lender(1), 0);
    check.due("lender(0) then", x.lender(0), NONE);
    ChildCoins y = Check.land("c50 2;p0;p1;h1 0 1;");
    check.due("ease 0 does", y.lender(0), 1);
  }

  private static void corner() {
    ChildCoins x = Check.land(RICH);
    check.due("corner(0)", x.corner(0), 56);
    check.due("corner(-1)", x.corner(-1), BAD);
    check.due("corner(5)", x.corner(5), BAD);
    check.due("one kind", Check.land("c0 2;c0 3;p0;p0;h0 0 9;h1 1 9;d0 1 2;").corner(0), 1);
    check.due("can't", Check.land("c0 2;c0 3;p0;p0;h0 0 9;h1 1 9;d0 1 1;").corner(0), 0);
    check.due("two kinds", Check.land("c0 2;c0 2;p0;p0;h0 0 9;h1 1 9;d0 1 2;").corner(0), 3);
    check.due("the least of as few", Check.land("c0 2;c0 3;p0;p0;h0 0 9;h1 1 9;d0 1 5;").corner(0), 1);
    check.due("what doesn't do", Check.land("c0 2;c7 2;p0;p0;h0 0 9;h1 1 9;d0 1 2;s1;").corner(0), 2);
    check.due("no coins", Check.land("p0;p0;d0 1 2;").corner(0), 0);
    ChildCoins y = Check.land("c0 2;p0;p0;h0 0 1;d0 1 2;");
    y.pays(0);
    check.due("of a closed one", y.corner(0), 1);
  }

  private static void oddsAre(ChildCoins x, int d, int part, int upper, int lower) {
    check.due("odds(" + d + ", " + part + ", 0)", x.odds(d, part, 0), upper);
    check.due("odds(" + d + ", " + part + ", 1)", x.odds(d, part, 1), lower);
  }

  private static void odds() {
    oddsAre(Check.land(RICH), 0, 5, 49, 64);
    oddsAre(Check.land(RICH), 0, 0, 1, 1);
    oddsAre(Check.land(RICH), 0, 10, 0, 1);
    // coin 0 alone or coin 1 alone does: 1 less 0.3 * 0.3; coin 2 is of no use
    ChildCoins x = Check.land("c0 2;c0 2;c0 5;p0;p0;h0 0 1;h1 1 1;h1 2 1;d0 1 2;d1 0 4;d0 1 1;");
    oddsAre(x, 0, 3, 91, 100);
    oddsAre(x, 1, 3, 49, 100);
    oddsAre(x, 2, 3, 0, 1);
    oddsAre(Check.land("p0;p0;d0 1 2;"), 0, 0, 0, 1);
    int[][] bad = {{-1, 0, 0}, {3, 0, 0}, {0, -1, 0}, {0, 11, 0}, {0, 0, -1}, {0, 0, 2}};
    for (int[] b : bad) check.due("odds bad", x.odds(b[0], b[1], b[2]), BAD);
  }
}
