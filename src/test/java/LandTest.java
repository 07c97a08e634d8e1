/** Promises 1 to 8: a new object, type, clear, land, coin, person, holds, debt. */
public final class LandTest {
  private static final int BAD = ChildCoins.BAD, FULL = ChildCoins.FULL, NONE = ChildCoins.NONE;
  private static final String LAND =
      "c10 1;c12 3;c12 5;c20 2;c25 5;p5;p10;p16;p2;h0 0 4;h0 1 2;h0 2 1;h1 3 6;h1 4 2;h2 0 3;h2 3 1;h3 2 2;"
      + "d0 1 9;d1 0 7;d2 3 3;d3 2 10;d1 2 4;s10;";
  private static final Check check = new Check("LandTest");

  public static void main(String[] args) {
    newObject();
    typing();
    goodTexts();
    faults();
    faultChangesNothing();
    readAnew();
    readOften();
    fullTexts();
    coins();
    people();
    holdings();
    debts();
    check.end();
  }

  private static void newObject() {
    ChildCoins x = new ChildCoins();
    int[] counts = {0, 0, 0, 9, 0, 0, 0};
    for (int i = 0; i < counts.length; i++) check.due("new count(" + i + ")", x.count(i), counts[i]);
    check.due("new coin(0, 0)", x.coin(0, 0), BAD);
    check.due("new person(0, 0)", x.person(0, 0), BAD);
    check.due("new holds(0, 0)", x.holds(0, 0), BAD);
    check.due("new debt(0, 0)", x.debt(0, 0), BAD);
    for (int i = 0; i < 4; i++) check.due("new now(" + i + ")", x.now(i), 0);
    check.due("new order(-1)", x.order(-1), 0);
    check.due("new order(0)", x.order(0), NONE);
    check.due("new undo()", x.undo(), ChildCoins.STATE);
    check.due("new back(0)", x.back(0), ChildCoins.STATE);
    check.due("new trace()", x.trace(), 0);
  }

  private static void typing() {
    ChildCoins x = new ChildCoins();
    check.due("type(-1)", x.type(-1), BAD);
    check.due("type(256)", x.type(256), BAD);
    check.due("type(MIN)", x.type(Integer.MIN_VALUE), BAD);
    check.due("type(0)", x.type(0), 1);
    check.due("type(255)", x.type(255), 2);
    check.due("count(6)", x.count(6), 2);
    check.due("clear()", x.clear(), 2);
    check.due("clear() again", x.clear(), 0);
    for (int i = 1; i <= 180; i++) check.due("type " + i, x.type(32), i);
    check.due("type at 180", x.type(32), FULL);
    check.due("type(256) at 180", x.type(256), BAD);
    check.due("count(6) at 180", x.count(6), 180);
    check.due("land() of blanks", x.land(), 0);
    check.due("count(6) after", x.count(6), 0);
  }

  private static void reads(String text, int want) {
    ChildCoins x = new ChildCoins();
    check.due("'" + text + "'", Check.tell(x, text), want);
    check.due("text after '" + text + "'", x.count(6), want < 0 ? text.length() : 0);
  }

  private static void goodTexts() {
    reads("", 0);
    reads("   ", 0);
    reads("c0 1;", 1);
    reads("  c  60   9  ; ", 1);
    reads("c60 9;c0 1;c0 1;c0 1;c0 1;c0 1;", 6);
    reads("p0;p60;p0;p0;p0;", 5);
    reads("s1;", 1);
    reads("s20;", 1);
    reads("c0 1;p0;h0 0 0;h0 0 9;", 4);
    reads("p0;p0;d0 1 1;d1 0 60;d0 1 1;d0 1 1;d0 1 1;", 7);
    reads(LAND, 23);
  }

  private static void faultAt(String text, int place) {
    reads(text, -10 - place);
  }

  private static void faults() {
    faultAt("c", 1);
    faultAt("c ", 2);
    faultAt("c0", 2);
    faultAt("c0 1", 4);
    faultAt("c0 1  ", 6);
    faultAt("c61 1;", 1);
    faultAt("c0 0;", 3);
    faultAt("c0 10;", 3);
    faultAt("c0 1 1;", 5);
    faultAt("c0;", 2);
    faultAt("c;", 1);
    faultAt("c01 1;", 1);
    faultAt("c00 1;", 1);
    faultAt("c100 1;", 1);
    faultAt("c 99999999999999999999 1;", 2);
    faultAt("c0 1;c0 1;c0 1;c0 1;c0 1;c0 1;c0 1;", 30);
    faultAt("c0 1;c0 1;c0 1;c0 1;c0 1;c0 1; c", 31);
    faultAt("cc0 1;", 0);
    faultAt("ca0 1;", 0);
    faultAt("cz0 1;", 0);
    faultAt("c d0 1;", 2);
    faultAt("C0 1;", 0);
    faultAt(" x;", 1);
    faultAt("0;", 0);
    faultAt(";", 0);
    faultAt("c0 1;;", 5);
    faultAt("c0 1;?", 5);
    faultAt("c0?1;", 2);
    faultAt("c0\t1;", 2);
    faultAt("c0-1;", 2);
    faultAt("c0 1" + (char) 200 + ";", 4);
    faultAt("p61;", 1);
    faultAt("p;", 1);
    faultAt("p0;p0;p0;p0;p0;p0;", 15);
    faultAt("h0 0 1;", 1);
    faultAt("p0;h0 0 1;", 6);
    faultAt("c0 1;h0 0 1;", 6);
    faultAt("c0 1;p0;h1 0 1;", 9);
    faultAt("c0 1;p0;h0 1 1;", 11);
    faultAt("c0 1;p0;h0 0 10;", 13);
    faultAt("d0 1 1;", 1);
    faultAt("p0;d0 0 1;", 6);
    faultAt("p0;d0 1 1;", 6);
    faultAt("p0;p0;d1 1 1;", 9);
    faultAt("p0;p0;d2 1 1;", 7);
    faultAt("p0;p0;d0 1 0;", 11);
    faultAt("p0;p0;d0 1 61;", 11);
    faultAt("p0;p0;d0 1 1;d0 1 1;d0 1 1;d0 1 1;d0 1 1;d0 1 1;", 41);
    faultAt("s0;", 1);
    faultAt("s21;", 1);
    faultAt("s1;s1;", 3);
    faultAt("s1", 2);
  }

  private static void faultChangesNothing() {
    ChildCoins x = Check.land(LAND);
    x.finds(0, 0);
    x.took(1);
    x.keep(0);
    check.due("fault", Check.tell(x, "c1 1;s3;x"), -18);
    check.due("fault again", x.land(), -18);
    check.due("coins stay", x.count(0), 5);
    check.due("span stays", x.count(3), 10);
    check.due("took stays", x.count(4), 1);
    check.due("undo stays", x.count(5), 1);
    check.due("text stays", x.clear(), 9);
    check.due("image stays", x.back(0), 5);
    check.due("holds stays", x.holds(0, 0), 5);
  }

  private static void readAnew() {
    ChildCoins x = Check.land(LAND);
    x.finds(0, 0);
    x.took(1);
    x.keep(1);
    x.mark(0, 0);
    x.pays(0);
    check.due("anew", Check.tell(x, "p3;p4;c1 2;d0 1 3;"), 4);
    int[] counts = {1, 2, 1, 9, 0, 0, 0};
    for (int i = 0; i < counts.length; i++) check.due("anew count(" + i + ")", x.count(i), counts[i]);
    check.due("anew open", x.now(0), 1);
    check.due("anew holds", x.holds(0, 0), 0);
    check.due("anew images", x.back(1), ChildCoins.STATE);
    check.due("anew trace", x.trace(), 1);
    check.due("empty text", x.land(), 0);
    check.due("nobody", x.count(1), 0);
  }

  /** What an earlier text told, or one with a fault, is not in a later one. */
  private static void readOften() {
    ChildCoins x = new ChildCoins();
    for (int i = 0; i < 3; i++) {
      check.due("much", Check.tell(x, LAND), 23);
      check.due("little", Check.tell(x, "c1 1;p1;p1;d1 0 1;"), 4);
      int[] counts = {1, 2, 1, 9};
      for (int what = 0; what < 4; what++) check.due("little count(" + what + ")", x.count(what), counts[what]);
      check.due("little holds", x.now(2), 0);
      check.due("fault", Check.tell(x, "c1 1;p1;p1;h1 0 9;d0 1 9;s20;s"), -39);
      check.due("still little", x.count(3), 9);
      x.clear();
      check.due("little again", Check.tell(x, "p1;c1 1;"), 2);
      check.due("no debts", x.count(2), 0);
      check.due("no span told", x.count(3), 9);
      check.due("no holds", x.holds(0, 0), 0);
    }
  }

  private static void fullTexts() {
    for (String end : new String[] {"c0 1;", "c0 1", "c0", "c", "cccccccccc", "10", "1111111111", ";", "?", " "}) {
      String text = " ".repeat(180 - end.length()) + end;
      int place = end.startsWith("cc") || !end.startsWith("c") ? 180 - end.length() : 180;
      reads(text, end.equals("c0 1;") ? 1 : end.equals(" ") ? 0 : -10 - place);
    }
  }

  private static void coins() {
    ChildCoins x = Check.land(LAND);
    int[][] want = {{10, 1, 3, 7}, {12, 3, 3, 2}, {12, 5, 3, 3}, {20, 2, 4, 7}, {25, 5, 0, 2}};
    for (int c = 0; c < want.length; c++) {
      for (int what = 0; what < 4; what++) check.due("coin(" + c + ", " + what + ")", x.coin(c, what), want[c][what]);
      check.due("coin what -1", x.coin(c, -1), BAD);
      check.due("coin what 4", x.coin(c, 4), BAD);
    }
    check.due("coin(-1, 0)", x.coin(-1, 0), BAD);
    check.due("coin(5, 0)", x.coin(5, 0), BAD);
    check.due("coin(MAX, 0)", x.coin(Integer.MAX_VALUE, 0), BAD);
    about();
  }

  /** A coin of span 3 struck in 10 is about in 10, 11, 12: for those born in 3, 4, 5. */
  private static void about() {
    ChildCoins x = Check.land("s3;c10 1;p2;p3;p4;p5;p6;");
    check.due("about", x.coin(0, 2), 14);
    ChildCoins y = Check.land("c10 1;p2;p3;p11;p12;");
    check.due("span 9 at first", y.coin(0, 2), 6);
  }

  private static void people() {
    ChildCoins x = Check.land(LAND);
    int[][] want = {{5, 7, 15, 28}, {10, 7, 22, 28}, {16, 8, 5, 14}, {2, 0, 10, 0}};
    for (int p = 0; p < want.length; p++) {
      for (int what = 0; what < 4; what++) check.due("person(" + p + ", " + what + ")", x.person(p, what), want[p][what]);
      check.due("person what -1", x.person(p, -1), BAD);
      check.due("person what 4", x.person(p, 4), BAD);
    }
    check.due("person(-1, 0)", x.person(-1, 0), BAD);
    check.due("person(4, 0)", x.person(4, 0), BAD);
  }

  private static void holdings() {
    ChildCoins x = Check.land(LAND);
    check.due("holds(0, 0)", x.holds(0, 0), 4);
    check.due("holds(1, 4)", x.holds(1, 4), 2);
    check.due("holds(3, 0)", x.holds(3, 0), 0);
    check.due("holds(4, 0)", x.holds(4, 0), BAD);
    check.due("holds(0, 5)", x.holds(0, 5), BAD);
    check.due("holds(-1, 0)", x.holds(-1, 0), BAD);
    check.due("holds(0, -1)", x.holds(0, -1), BAD);
    check.due("told again", Check.land("c1 1;p1;h0 0 7;h0 0 2;").holds(0, 0), 2);
    check.due("told again, none", Check.land("c1 1;p1;h0 0 7;h0 0 0;").holds(0, 0), 0);
  }

  private static void debts() {
    ChildCoins x = Check.land("c30 4;c33 4;c38 1;c40 7;c29 2;p24;p30;p33;p28;h0 0 3;h0 2 5;h0 4 6;h1 1 4;h1 3 2;"
        + "h2 2 9;h2 0 2;h3 3 3;h3 1 1;d0 1 14;d1 2 8;d2 0 12;d3 1 21;d0 3 6;s8;");
    int[][] want = {
      {0, 1, 14, 1, NONE, 0, 8}, {1, 2, 8, 1, 2, 1, 12}, {2, 0, 12, 1, NONE, 1, 0},
      {3, 1, 21, 1, NONE, 0, 4}, {0, 3, 6, 1, 2, 1, 8}};
    for (int d = 0; d < want.length; d++) {
      for (int what = 0; what < 7; what++) check.due("debt(" + d + ", " + what + ")", x.debt(d, what), want[d][what]);
      check.due("debt what -1", x.debt(d, -1), BAD);
      check.due("debt what 7", x.debt(d, 7), BAD);
    }
    check.due("debt(-1, 0)", x.debt(-1, 0), BAD);
    check.due("debt(5, 0)", x.debt(5, 0), BAD);
    check.due("heir 0", Check.land("c7 1;p0;p0;p0;h2 0 5;d2 1 3;").debt(0, 6), 3);
    ChildCoins z = Check.land("c7 1;p0;p0;p0;h0 0 5;d0 1 3;");
    z.pays(0);
    z.finds(0, 0);
    check.due("a closed one has pieces", z.debt(0, 4), 3);
    check.due("a closed one has no heirs", z.debt(0, 6), 0);
    z.undo();
    z.undo();
    check.due("open again, it has heirs", z.debt(0, 6), 6);
    ChildCoins y = Check.land("c7 1;c8 1;p0;p0;p1;h0 0 5;d0 1 3;s1;");
    check.due("heirs, the creditor among them", y.debt(0, 6), 2);
    y.passes(0, 2);
    check.due("heirs of a claim that can't be paid", y.debt(0, 6), 2);
    check.due("its pieces", y.debt(0, 4), NONE);
    check.due("its world", y.debt(0, 5), 0);
  }
}
