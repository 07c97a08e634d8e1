/** The edges of promises 5 to 8 and of what they rest on (ABOUT, DOES, WORLD, HEIRS): coin, person, holds, debt. */
public final class LandBoundsTest {
  private static final Check check = new Check("LandBoundsTest");
  private static final String[] SMALL = {"tell c7 2;c8 3;p0;p1;p1;h0 0 4;h1 1 2;d0 1 4;d1 0 3;s1; = 10"};
  private static final String[] LARGEST = {
    "tell " + "c7 1;".repeat(6) + "p0;".repeat(5) + "h4 5 9;d4 0 9;d4 1 9;d4 2 9;d4 3 9;d0 4 1;s20; = 18"};

  public static void main(String[] args) {
    coins();
    about();
    inAll();
    people();
    holdings();
    debts();
    pieces();
    world();
    heirs();
    heirsOfClosedDebts();
    heirsAndNinetyNine();
    check.end();
  }

  private static void says(String title, String... lines) { Script.run(check, title, lines); }

  private static void coins() {
    Script.sides(check, "there is no such coin", SMALL, "coin ? 0", 0, 1);
    Script.sides(check, "there is no such coin of six", LARGEST, "coin ? 3", 0, 5);
    Script.sides(check, "what of a coin", SMALL, "coin 1 ?", 0, 3);
    says("both wrong", Script.with(SMALL, "coin 2 4 = BAD", "coin -1 -1 = BAD"));
    says("what is asked of a coin", Script.with(SMALL, "coin 1 0 = 8", "coin 1 1 = 3", "coin 1 2 = 6", "coin 1 3 = 2"));
    says("for all five, and for none", Script.with(LARGEST, "coin 0 2 = 31", "coin 5 3 = 9", "coin 4 3 = 0"));
  }

  /** The seventh year behind 0 is 7. */
  private static void about() {
    says("SPAN 1: in the year in which it is STRUCK alone", "tell s1;c10 1;p2;p3;p4; = 5", "coin 0 2 = 2");
    says("SPAN 2: and in the next", "tell s2;c10 1;p2;p3;p4;p5; = 6", "coin 0 2 = 6");
    says("SPAN 9 at first", "tell c10 1;p2;p3;p11;p12; = 5", "coin 0 2 = 6");
    says("SPAN 20", "tell s20;c27 1;p19;p20;p39;p40; = 6", "coin 0 2 = 6");
    says("struck in 0, for one born in 0: not yet far enough", "tell s7;c0 1;p0; = 3", "coin 0 2 = 0", "person 0 1 = 0");
    says("struck in 0, for one born in 0", "tell s8;c0 1;p0;p1; = 4", "coin 0 2 = 1", "person 0 1 = 1");
    says("struck in 7, for one born in 0", "tell s1;c7 1;p0; = 3", "coin 0 2 = 1");
    says("struck in 8, for one born in 0", "tell s20;c8 1;p0; = 3", "coin 0 2 = 0");
    says("struck in 60, for one born in 53", "tell s1;c60 1;p52;p53;p54; = 5", "coin 0 2 = 2");
    says("struck in 60, for one born in 60: the year is 67", "tell s7;c60 1;p60;p59; = 4", "coin 0 2 = 2");
    says("struck in 60, for one born in 60", "tell s8;c60 1;p60; = 3", "coin 0 2 = 1");
  }

  private static void inAll() {
    says("how many there are in all", "tell c7 1;p0;p0;h0 0 1; = 4", "coin 0 3 = 1", "loses 0 0 = 0", "coin 0 3 = 0",
        "finds 1 0 x99 = 99", "finds 0 0 x9 = 9", "coin 0 3 = 108");
    says("nobody to hold any", "tell c7 1; = 1", "coin 0 3 = 0", "coin 0 2 = 0");
  }

  private static void people() {
    Script.sides(check, "there is no such person", SMALL, "person ? 0", 0, 2);
    Script.sides(check, "there is no such person of five", LARGEST, "person ? 3", 0, 4);
    Script.sides(check, "what of a person", SMALL, "person 2 ?", 0, 3);
    says("what is asked of a person", Script.with(SMALL, "person 0 0 = 0", "person 0 1 = 1", "person 0 2 = 8", "person 0 3 = 8"));
    says("one who holds nothing", Script.with(SMALL, "person 2 2 = 0", "person 2 3 = 6", "person 2 1 = 2"));
    says("one for whom nothing does", "tell c60 9;p0;h0 0 9; = 3", "person 0 1 = 0", "person 0 2 = 81", "person 0 3 = 0");
    says("no coins", "tell p5; = 1", "person 0 0 = 5", "person 0 1 = 0", "person 0 2 = 0", "person 0 3 = 0");
    says("all six", Script.with(LARGEST, "person 0 1 = 63", "person 4 2 = 9", "person 0 2 = 0", "person 0 3 = 9"));
    says("99 of a coin of 9", "tell c7 9;p0;p0;h0 0 9; = 4", "finds 0 0 x90 = 99", "person 0 2 = 891", "person 1 3 = 891");
  }

  private static void holdings() {
    Script.sides(check, "nobody holds", SMALL, "holds ? 1", 0, 2);
    Script.sides(check, "no coin is held", SMALL, "holds 1 ?", 0, 1);
    Script.sides(check, "the last of five", LARGEST, "holds ? 5", 0, 4);
    Script.sides(check, "the last of six", LARGEST, "holds 4 ?", 0, 5);
    says("none, some", Script.with(SMALL, "holds 0 0 = 4", "holds 0 1 = 0", "holds 1 0 = 0", "holds 1 1 = 2", "holds 2 1 = 0"));
    says("no coins", "tell p0; = 1", "holds 0 0 = BAD");
    says("nobody", "tell c7 1; = 1", "holds 0 0 = BAD");
  }

  private static void debts() {
    Script.sides(check, "there is no such debt", SMALL, "debt ? 0", 0, 1);
    Script.sides(check, "there is no such debt of five", LARGEST, "debt ? 2", 0, 4);
    Script.sides(check, "what of a debt", SMALL, "debt 1 ?", 0, 6);
    says("no debts", "tell p0;p0; = 2", "debt 0 0 = BAD");
    says("what is asked of a debt", Script.with(SMALL, "debt 1 0 = 1", "debt 1 1 = 0", "debt 1 2 = 3", "debt 1 3 = 1",
        "debt 1 4 = NONE", "debt 1 5 = 0", "debt 1 6 = 4"));
    says("all are open at first", Script.with(LARGEST, "debt 0 3 = 1", "debt 1 3 = 1", "debt 2 3 = 1", "debt 3 3 = 1", "debt 4 3 = 1"));
    says("the CREDITOR of a claim passed on, the DEBTOR stays", Script.with(SMALL, "passes 0 2 = 1", "debt 0 1 = 2", "debt 0 0 = 0",
        "debt 0 2 = 4"));
  }

  private static void pieces() {
    says("fewest: one", "tell c7 9;p0;p0;h0 0 1;d0 1 9; = 5", "debt 0 4 = 1", "loses 0 0 = 0", "debt 0 4 = NONE");
    says("most: 60 ones", "tell c7 1;p0;p0;h0 0 9;d0 1 60; = 5", "finds 0 0 x50 = 59", "debt 0 4 = NONE", "finds 0 0 = 60",
        "debt 0 4 = 60", "finds 0 0 = 61", "debt 0 4 = 60");
    says("just as much, nothing is given back", "tell c7 2;p0;p0;h0 0 9;d0 1 1;d0 1 3;d0 1 4; = 7", "debt 0 4 = NONE",
        "debt 1 4 = NONE", "debt 2 4 = 2");
    says("open or not", "tell c7 2;p0;p0;h0 0 9;d0 1 4; = 5", "pays 0 = 2", "debt 0 3 = 0", "debt 0 4 = 2", "pieces 0 0 = 2");
    says("as the CREDITOR is then", "tell c7 2;c8 2;p0;p0;p1;h0 1 3;d0 1 4;s1; = 8", "debt 0 4 = NONE", "passes 0 2 = 1", "debt 0 4 = 2");
    says("what the CREDITOR holds does not matter", "tell c7 2;p0;p0;h0 0 1;h1 0 9;d0 1 2; = 6", "finds 1 0 x90 = 99",
        "debt 0 4 = 1", "pieces 0 0 = 1");
  }

  private static void world() {
    says("all together just enough", "tell c7 2;p0;p0;p0;h0 0 1;h1 0 1;h2 0 1;d0 1 6;d0 1 7;d0 1 8; = 10", "debt 0 5 = 1",
        "debt 0 4 = NONE", "debt 1 5 = 0", "debt 2 5 = 0", "now 1 = 6", "finds 2 0 = 2", "debt 2 5 = 1", "now 1 = 2");
    says("the CREDITOR's own too", "tell c7 2;p0;p0;h1 0 1;d0 1 2; = 5", "debt 0 5 = 1", "loses 1 0 = 0", "debt 0 5 = 0");
    says("what does not DO is no help", "tell c7 2;c8 2;p0;p1;h0 1 9;h1 1 9;d1 0 2;d0 1 2;s1; = 9", "debt 0 5 = 0", "debt 1 5 = 1");
    says("nothing is held", "tell c7 1;p0;p0;d0 1 1; = 4", "debt 0 5 = 0");
    says("no coins", "tell p0;p0;d0 1 1; = 3", "debt 0 5 = 0", "debt 0 4 = NONE", "debt 0 6 = 0");
    says("60, by ones", "tell c7 1;p0;p0;h0 0 9;h1 0 9;d0 1 60; = 6", "finds 1 0 x41 = 50", "debt 0 5 = 0", "finds 1 0 = 51", "debt 0 5 = 1");
    says("60, by nines and a six", "tell c7 9;c7 6;p0;p0;h0 0 6;h1 1 1;d0 1 60; = 7", "debt 0 5 = 1", "loses 1 1 = 0", "debt 0 5 = 0");
    says("far more than is needed", "tell c7 9;c7 8;p0;p0;h0 0 9;h1 1 9;d0 1 60;d0 1 1; = 8", "debt 0 5 = 1", "debt 1 5 = 0");
    says("of a DEBT that is not open", "tell c7 2;p0;p0;h0 0 1;d0 1 2; = 5", "pays 0 = 1", "debt 0 5 = 1", "loses 1 0 = 0", "debt 0 5 = 0",
        "now 1 = 0");
  }

  private static void heirs() {
    says("all but the DEBTOR", "tell c7 1;p0;p0;p0;p0;p0;h2 0 5;d2 0 5;d2 0 6; = 9", "debt 0 6 = 27", "debt 1 6 = 0");
    says("the DEBTOR never, though he holds what does for him", "tell c7 1;p0;p1;h0 0 9;d0 1 5;s1; = 6", "debt 0 6 = 0");
    says("the CREDITOR too, if it can be PAID to him", "tell c7 1;p0;p0;p1;h0 0 9;d0 1 5;s1; = 7", "debt 0 6 = 2", "passes 0 2 = 1",
        "debt 0 6 = 2", "debt 0 4 = NONE");
    says("each by the coins that DO for him", "tell c7 2;c8 2;p0;p0;p1;h0 1 3;d0 1 4;s1; = 8", "debt 0 6 = 4", "finds 0 0 x2 = 2", "debt 0 6 = 6");
    says("by what the DEBTOR holds, not the world", "tell c7 2;p0;p0;p0;h1 0 9;d0 1 4; = 6", "debt 0 5 = 1", "debt 0 6 = 0");
  }

  /** PAID: a DEBT that is open. */
  private static void heirsOfClosedDebts() {
    says("to nobody it could be PAID again", "tell c7 1;p0;p0;p0;h0 0 9;d0 1 3; = 6", "debt 0 6 = 6", "pays 0 = 3", "debt 0 4 = 3",
        "debt 0 6 = 0", "undo = 0", "debt 0 6 = 6");
  }

  /** Promise 9: the CREDITOR would HOLD more than 99 of a COIN. */
  private static void heirsAndNinetyNine() {
    says("one who would HOLD more than 99", "tell c7 1;p0;p0;p0;h0 0 2;h1 0 9;d0 1 2; = 7", "finds 1 0 x88 = 97", "debt 0 6 = 6",
        "finds 1 0 = 98", "debt 0 6 = 4", "finds 1 0 = 99", "debt 0 6 = 4", "debt 0 4 = 2");
  }
}
