/** The edges of promises 16 to 20: pieces, order, lender, corner, odds. */
public final class PaymentsBoundsTest {
  private static final Check check = new Check("PaymentsBoundsTest");
  private static final String[] SMALL = {
    "tell c7 2;c7 3;p0;p0;p0;h0 0 4;h1 1 2;d0 1 4;d1 0 3;d0 1 5; = 10", "finds 0 0 = 5", "keep 1 = 3"};
  private static final String[] LARGEST = {
    "tell " + "c7 9;".repeat(6) + "p0;".repeat(5) + "h0 0 1;h0 1 1;h0 2 1;h0 3 1;h0 4 1;h0 5 1;d0 1 54;d0 1 9;d1 2 9;d2 3 9;d3 4 9; = 22"};

  public static void main(String[] args) {
    pieces();
    ties();
    order();
    orderOfSeveral();
    orderAndNinetyNine();
    lender();
    lenderOfSeveral();
    corner();
    odds();
    oddsInLeastTerms();
    nothingIsChanged();
    check.end();
  }

  private static void says(String title, String... lines) { Script.run(check, title, lines); }

  private static void pieces() {
    Script.sides(check, "there is no such debt", SMALL, "pieces ? 0", 0, 2);
    Script.sides(check, "there is no such coin", SMALL, "pieces 0 ?", 0, 1);
    Script.sides(check, "the last of five", LARGEST, "pieces ? 5", 0, 4);
    Script.sides(check, "the last of six", LARGEST, "pieces 0 ?", 0, 5);
    says("none of a coin", Script.with(SMALL, "pieces 0 0 = 2", "pieces 0 1 = 0"));
    says("NONE: there is no PAYMENT", Script.with(SMALL, "pieces 2 0 = NONE", "pieces 2 1 = NONE"));
    says("BAD comes ahead of NONE", Script.with(SMALL, "pieces 2 2 = BAD", "pieces 2 -1 = BAD"));
    says("all that he holds", Script.with(LARGEST, "pieces 0 0 = 1", "pieces 0 5 = 1", "debt 0 4 = 6"));
    says("of a DEBT that is not open", "tell c7 2;p0;p0;h0 0 3;d0 1 4; = 5", "pays 0 = 2", "pieces 0 0 = NONE", "finds 0 0 = 2",
        "pieces 0 0 = 2");
    says("99 in the creditor's hands", "tell c7 2;p0;p0;h0 0 1;h1 0 9;d0 1 2; = 6", "finds 1 0 x90 = 99", "pays 0 = STATE", "pieces 0 0 = 1");
    says("what does not DO", "tell c7 4;c8 2;p0;p1;h0 0 9;h0 1 9;d0 1 4;s1; = 8", "pieces 0 0 = 0", "pieces 0 1 = 2");
  }

  private static void ties() {
    says("fewest pieces first", "tell c7 4;c7 2;p0;p0;h0 0 9;h0 1 9;d0 1 8; = 7", "pieces 0 0 = 2", "pieces 0 1 = 0");
    says("the greatest coin first would be more", "tell c7 5;c7 4;c7 1;p0;p0;h0 0 9;h0 1 9;h0 2 9;d0 1 8; = 9", "pieces 0 0 = 0",
        "pieces 0 1 = 2", "pieces 0 2 = 0");
    says("of several that of fewest of COIN 0", "tell c7 2;c7 2;p0;p0;h0 0 9;h0 1 9;d0 1 6; = 7", "pieces 0 0 = 0", "pieces 0 1 = 3");
    says("as few of COIN 0 as there can be", "tell c7 2;c7 2;p0;p0;h0 0 9;h0 1 2;d0 1 6; = 7", "pieces 0 0 = 1", "pieces 0 1 = 2");
    says("then of COIN 1", "tell c7 2;c7 3;c7 3;p0;p0;h0 0 9;h0 1 9;h0 2 1;d0 1 8; = 9", "pieces 0 0 = 1", "pieces 0 1 = 1", "pieces 0 2 = 1");
    says("two pieces: 2 and 8, 4 and 6, 5 and 5", "tell c7 2;c7 8;c7 4;c7 6;c7 5;p0;p0;h0 0 9;h0 1 9;h0 2 9;h0 3 9;h0 4 9;d0 1 10; = 13",
        "pieces 0 0 = 0", "pieces 0 1 = 0", "pieces 0 2 = 0", "pieces 0 3 = 0", "pieces 0 4 = 2");
    says("the last coin last", "tell c7 5;c7 6;c7 4;p0;p0;h0 0 9;h0 1 9;h0 2 9;d0 1 10; = 9", "pieces 0 0 = 0", "pieces 0 1 = 1", "pieces 0 2 = 1");
  }

  private static void order() {
    Script.sides(check, "i -1 .. 4", SMALL, "order ?", -1, 4);
    says("i -1 .. 4, though there are no debts", "order -2 = BAD", "order 5 = BAD", "order -1 = 0", "order 4 = NONE");
    says("none can be paid", "tell c7 2;p0;p0;d0 1 2; = 4", "order -1 = 0", "order 0 = NONE");
    says("one: the second is NONE", "tell c7 2;p0;p0;h0 0 1;d0 1 2; = 5", "order -1 = 1", "order 0 = 0", "order 1 = NONE", "order 4 = NONE");
    says("all five", "tell c7 1;p0;p0;h0 0 5;" + "d0 1 1;".repeat(5) + " = 9", "order -1 = 5", "order 0 = 0", "order 1 = 1", "order 2 = 2",
        "order 3 = 3", "order 4 = 4");
    says("only open ones", "tell c7 1;p0;p0;h0 0 9;d0 1 1;d0 1 1;d0 1 1; = 7", "pays 1 = 1", "order -1 = 2", "order 0 = 0", "order 1 = 2",
        "order 2 = NONE", "pays 0 = 1", "pays 2 = 1", "order -1 = 0", "order 0 = NONE", "undo = 2", "order -1 = 1", "order 0 = 2");
    says("each as it comes: by what came in ahead", "tell c7 3;p0;p0;p0;p0;p0;h4 0 1;d0 1 3;d2 0 3;d3 2 3;d4 3 3;d1 4 3; = 12",
        "order -1 = 5", "order 0 = 3", "order 1 = 2", "order 2 = 1", "order 3 = 0", "order 4 = 4");
    says("by the CREDITOR of then", "tell c7 3;p0;p0;p1;h0 0 1;d0 1 3;s1; = 7", "order -1 = 1", "passes 0 2 = 1", "order -1 = 0");
  }

  private static void orderOfSeveral() {
    says("the first by numbers", "tell c7 3;p0;p0;p0;h0 0 1;d0 1 3;d0 2 3; = 7", "order -1 = 1", "order 0 = 0");
    says("the first by numbers, of two", "tell c7 1;p0;p0;h0 0 2;d0 1 1;d0 1 1;d0 1 1; = 7", "order -1 = 2", "order 0 = 0", "order 1 = 1");
    says("most come ahead of first", "tell c7 1;p0;p0;h0 0 5;d0 1 5;d0 1 2;d0 1 3; = 7", "order -1 = 2", "order 0 = 1", "order 1 = 2");
    says("a PAYMENT of fewest pieces may spoil the next", "tell c8 5;c7 3;c7 2;p0;p1;p2;h0 0 1;h0 1 1;h0 2 1;d0 1 5;d0 2 5;s2; = 12",
        "order -1 = 2", "order 0 = 1", "order 1 = 0");
    says("1 then 0 comes ahead of 1 then 2", "tell c7 1;p0;p0;p0;h0 0 1;d1 2 1;d0 1 1;d1 2 1; = 8", "order -1 = 2", "order 0 = 1", "order 1 = 0");
  }

  /** Promise 9: STATE, the CREDITOR would HOLD more than 99 of a COIN; in a row, too. */
  private static void orderAndNinetyNine() {
    says("one who would HOLD more than 99", "tell c7 1;p0;p0;h0 0 2;h1 0 9;d0 1 2; = 6", "finds 1 0 x88 = 97", "order -1 = 1", "finds 1 0 = 98",
        "order -1 = 0", "order 0 = NONE");
    says("he makes room first", "tell c7 1;p0;p0;p0;h0 0 2;h1 0 9;d0 1 2;d1 2 1; = 8", "finds 1 0 x89 = 98", "order -1 = 2", "order 0 = 1",
        "order 1 = 0", "loses 1 0 = 97", "order 0 = 0", "order 1 = 1");
    says("full by the first of the row", "tell c7 1;p0;p0;h0 0 4;h1 0 9;d0 1 2;d0 1 2; = 7", "finds 1 0 x88 = 97", "order -1 = 1", "order 0 = 0");
  }

  private static void lender() {
    Script.sides(check, "there is no such person", SMALL, "lender ?", 0, 2);
    Script.sides(check, "there is no such person of five", LARGEST, "lender ?", 0, 4);
    says("NONE: alone", "tell c7 1;p0;h0 0 9; = 3", "lender 0 = NONE");
    says("NONE: the others HOLD nothing", "tell c7 1;p0;p0;p0;h0 0 9; = 5", "lender 0 = NONE", "lender 1 = 0", "finds 2 0 = 1", "lender 0 = 2");
    says("NONE: no coins", "tell p0;p0; = 2", "lender 0 = NONE");
    says("who HOLDS what DOES for nobody: his EASE is 0", "tell c60 1;p0;p0;h1 0 1; = 4", "lender 0 = 1", "loses 1 0 = 0", "lender 0 = NONE");
    says("who HOLDS the last coin alone", "tell c7 1;c7 1;p0;p0;h1 1 1; = 5", "lender 0 = 1");
  }

  private static void lenderOfSeveral() {
    says("of greatest EASE", "tell c7 2;c8 3;p0;p1;p0;h0 0 1;h1 0 1;h2 1 1;s1; = 9", "lender 2 = 0", "lender 0 = 2", "finds 0 1 = 1",
        "lender 2 = 1", "lender 0 = 1");
    says("of several the lowest", "tell c7 2;p0;p0;p0;h0 0 1;h1 0 1;h2 0 1; = 7", "lender 0 = 1", "lender 1 = 0", "lender 2 = 0");
    says("EASE is by what all hold, he need not hold it", "tell c7 9;c8 1;p0;p1;p5;h0 1 1;h1 1 1;h2 0 9;s1; = 9", "lender 2 = 0");
  }

  private static void corner() {
    Script.sides(check, "there is no such debt", SMALL, "corner ?", 0, 2);
    Script.sides(check, "there is no such debt of five", LARGEST, "corner ?", 0, 4);
    says("0: it can not as it is", "tell c7 2;p0;p0;h0 0 9;d0 1 3; = 5", "corner 0 = 0");
    says("0: nothing is held", "tell c7 2;p0;p0;d0 1 2; = 4", "corner 0 = 0", "finds 1 0 = 1", "corner 0 = 1");
    says("0: no coins", "tell p0;p0;d0 1 2; = 3", "corner 0 = 0");
    says("one kind", "tell c7 2;c7 3;p0;p0;h0 0 1;h1 1 1;d0 1 2;d0 1 3; = 8", "corner 0 = 1", "corner 1 = 2");
    says("of as few the least", "tell c7 2;c7 3;p0;p0;h0 0 1;h1 1 1;d0 1 5; = 7", "corner 0 = 1");
    says("of two kinds the least", "tell c7 2;c7 2;c7 4;c7 4;p0;p0;h0 0 1;h0 1 1;h0 2 1;h0 3 1;d0 1 6; = 11", "corner 0 = 3");
    says("all six", "tell " + "c7 1;".repeat(6) + "p0;p0;h0 0 1;h0 1 1;h0 2 1;h1 3 1;h1 4 1;h1 5 1;d0 1 1;d0 1 6;d0 1 5; = 17", "corner 0 = 63",
        "corner 1 = 1", "corner 2 = 3");
    says("fewest come ahead of least", "tell c7 1;c7 1;c7 2;p0;p0;h0 0 1;h0 1 1;h0 2 1;d0 1 3; = 9", "corner 0 = 4");
    says("what does not DO is no help", "tell c7 2;c8 2;p0;p1;h0 0 1;h0 1 1;d0 1 2;s1; = 8", "corner 0 = 2");
    says("of a DEBT that is not open", "tell c7 2;p0;p0;h0 0 1;d0 1 2; = 5", "pays 0 = 1", "corner 0 = 1");
  }

  private static void odds() {
    Script.sides(check, "there is no such debt", SMALL, "odds ? 5 0", 0, 2);
    Script.sides(check, "x 0 .. 10", SMALL, "odds 0 ? 1", 0, 10);
    Script.sides(check, "what 0, 1", SMALL, "odds 0 5 ?", 0, 1);
    Script.sides(check, "there is no such debt of five", LARGEST, "odds ? 5 1", 0, 4);
    says("x 0: nothing is lost", Script.with(SMALL, "odds 0 0 0 = 1", "odds 0 0 1 = 1"));
    says("x 10: all is lost", Script.with(SMALL, "odds 0 10 0 = 0", "odds 0 10 1 = 1"));
    says("it can not as it is", "tell c7 2;p0;p0;h0 0 9;d0 1 3; = 5", "odds 0 0 0 = 0", "odds 0 0 1 = 1", "odds 0 5 0 = 0", "odds 0 5 1 = 1",
        "odds 0 10 0 = 0", "odds 0 10 1 = 1");
    says("no coins", "tell p0;p0;d0 1 3; = 3", "odds 0 0 0 = 0", "odds 0 0 1 = 1", "odds 0 5 1 = 1");
    says("of a DEBT that is not open", "tell c7 2;p0;p0;h0 0 1;d0 1 2; = 5", "pays 0 = 1", "odds 0 1 0 = 9", "odds 0 1 1 = 10");
  }

  private static void oddsInLeastTerms() {
    says("one kind: 9 of 10 to 1 of 10", "tell c7 2;p0;p0;h0 0 1;d0 1 2; = 5", "odds 0 1 0 = 9", "odds 0 1 1 = 10", "odds 0 2 0 = 4",
        "odds 0 2 1 = 5", "odds 0 5 0 = 1", "odds 0 5 1 = 2", "odds 0 9 0 = 1", "odds 0 9 1 = 10");
    says("a kind that is of no use", "tell c7 2;c7 9;p0;p0;h0 0 1;h0 1 1;d0 1 2; = 7", "odds 0 1 0 = 9", "odds 0 1 1 = 10");
    says("all six are needed", Script.with(LARGEST, "odds 0 1 0 = 531441", "odds 0 1 1 = 1000000", "odds 0 9 0 = 1", "odds 0 9 1 = 1000000",
        "odds 0 5 0 = 1", "odds 0 5 1 = 64"));
    says("any of six will do", Script.with(LARGEST, "odds 1 1 0 = 999999", "odds 1 1 1 = 1000000", "odds 1 9 0 = 468559",
        "odds 1 9 1 = 1000000", "odds 1 5 0 = 63", "odds 1 5 1 = 64"));
    says("two of two, one of two", "tell c7 2;c7 2;p0;p0;h0 0 1;h1 1 1;d0 1 4;d0 1 2; = 8", "odds 0 5 0 = 1", "odds 0 5 1 = 4",
        "odds 1 5 0 = 3", "odds 1 5 1 = 4");
  }

  private static void nothingIsChanged() {
    says("nothing is changed", Script.with(SMALL, "pays 0 = 2", "pieces 0 0 = 2", "order -1 = 2", "order 0 = 1", "lender 0 = 1", "corner 1 = 2",
        "odds 1 3 0 = 7", "years 0 = 61", "now 1 = 0", "debt 2 6 = 0", "count 5 = 2"));
  }
}
