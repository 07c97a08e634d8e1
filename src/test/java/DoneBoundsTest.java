/** The edges of promises 9 to 15: pays, trades, loses, finds, passes, undo, now. */
public final class DoneBoundsTest {
  private static final Check check = new Check("DoneBoundsTest");
  private static final String[] SMALL = {
    "tell c7 2;c7 2;c7 3;p0;p0;p0;h0 0 4;h1 1 2;h1 2 1;d0 1 4;d1 0 3;d0 1 2; = 12", "keep 1 = 3"};

  public static void main(String[] args) {
    paid();
    paidBeyondNine();
    paidBeyondNinetyNine();
    exchanged();
    exchangedBad();
    exchangedBeyondNinetyNine();
    lost();
    found();
    passed();
    undone();
    undoneTen();
    refusedAreNotKnown();
    now();
    check.end();
  }

  private static void says(String title, String... lines) { Script.run(check, title, lines); }

  private static void paid() {
    Script.sides(check, "there is no such debt", SMALL, "pays ?", 0, 2);
    says("STATE: it is not open", Script.with(SMALL, "pays 2 = 1", "debt 2 4 = 1", "pays 2 = STATE", "now 0 = 3"));
    says("STATE: there is no such PAYMENT, too little", "tell c7 2;p0;p0;h0 0 1;d0 1 4; = 5", "pays 0 = STATE", "finds 0 0 = 2",
        "pays 0 = 2", "holds 0 0 = 0", "holds 1 0 = 2");
    says("STATE: there is no such PAYMENT, not just as much", "tell c7 2;p0;p0;h0 0 9;d0 1 3; = 5", "pays 0 = STATE");
    says("STATE: there is no such PAYMENT, it does not DO", "tell c7 2;p0;p1;h0 0 9;d0 1 2;s1; = 6", "pays 0 = STATE");
    says("STATE: there is no such PAYMENT, he has none", "tell c7 2;p0;p0;h1 0 9;d0 1 2; = 5", "pays 0 = STATE");
    says("STATE: there is no such PAYMENT, no coins", "tell p0;p0;d0 1 2; = 3", "pays 0 = STATE");
    says("to the CREDITOR of then", "tell c7 2;p0;p0;p0;h0 0 2;d0 1 4; = 6", "passes 0 2 = 1", "pays 0 = 2", "holds 1 0 = 0", "holds 2 0 = 2");
    says("no coin of an earlier text is paid", "tell c7 1;c7 2;p0;p0;h0 1 1;d0 1 2; = 6", "pays 0 = 1", "tell c7 1;p0;p0;h0 0 2;d0 1 2; = 5",
        "pays 0 = 2", "lender 0 = 1", "loses 1 0 x2 = 0", "lender 0 = NONE");
    says("all five", "tell c7 1;p0;p0;h0 0 5;" + "d0 1 1;".repeat(5) + " = 9", "pays 4 = 1", "pays 0 = 1", "pays 2 = 1", "pays 1 = 1",
        "now 0 = 8", "pays 3 = 1", "now 0 = 0", "holds 0 0 = 0", "holds 1 0 = 5");
  }

  private static void paidBeyondNine() {
    says("any number; more than 9, too", "tell c7 1;p0;p0;h0 0 9;h1 0 9;d0 1 9;d1 0 18; = 7", "pays 0 = 9", "holds 1 0 = 18", "pays 1 = 18",
        "holds 0 0 = 18", "holds 1 0 = 0");
    says("60 at once", "tell c7 1;p0;p0;h0 0 9;d0 1 60; = 5", "finds 0 0 x50 = 59", "pays 0 = STATE", "finds 0 0 = 60", "pays 0 = 60",
        "holds 1 0 = 60", "holds 0 0 = 0");
  }

  private static void paidBeyondNinetyNine() {
    says("STATE: more than 99", "tell c7 1;p0;p0;h0 0 2;h1 0 9;d0 1 2; = 6", "finds 1 0 x89 = 98", "pays 0 = STATE", "debt 0 3 = 1",
        "loses 1 0 = 97", "pays 0 = 2", "holds 1 0 = 99");
    says("99 of another COIN", "tell c7 2;c7 1;p0;p0;h0 0 1;h1 1 9;d0 1 2; = 7", "finds 1 1 x90 = 99", "pays 0 = 1", "holds 1 0 = 1");
    says("the PAYMENT is one alone, another that would fit is none", "tell c7 2;c7 2;p0;p0;h0 0 1;h0 1 1;h1 1 9;d0 1 2; = 8",
        "finds 1 1 x90 = 99", "pieces 0 1 = 1", "pays 0 = STATE", "loses 1 1 = 98", "pays 0 = 1", "holds 1 1 = 99");
    says("the DEBTOR may hold 99", "tell c7 1;p0;p0;h0 0 9;d0 1 60; = 5", "finds 0 0 x90 = 99", "pays 0 = 60", "holds 0 0 = 39");
  }

  private static void exchanged() {
    says("how many of the second the first one holds then", Script.with(SMALL, "trades 0 0 1 1 = 1", "trades 0 0 1 1 = 2", "holds 0 0 = 2",
        "holds 0 1 = 2", "holds 1 0 = 2", "holds 1 1 = 0", "trades 0 0 1 1 = STATE"));
    says("the other way round", Script.with(SMALL, "trades 1 1 0 0 = 1", "holds 1 0 = 1", "holds 0 1 = 1"));
    says("STATE: the first does not HOLD it", Script.with(SMALL, "trades 2 0 1 1 = STATE"));
    says("STATE: the second does not HOLD it", Script.with(SMALL, "trades 0 0 2 1 = STATE"));
    says("STATE: neither", Script.with(SMALL, "trades 0 1 1 0 = STATE"));
    says("STATE: of unlike WORTH", Script.with(SMALL, "trades 0 0 1 2 = STATE", "trades 1 2 0 0 = STATE"));
    says("the last piece", "tell c7 2;c7 2;p0;p0;h0 0 1;h1 1 1; = 6", "trades 0 0 1 1 = 1", "holds 0 0 = 0", "holds 1 1 = 0");
    says("what DOES for nobody", "tell c60 2;c59 2;p0;p0;h0 0 1;h1 1 1; = 6", "trades 0 0 1 1 = 1");
  }

  private static void exchangedBad() {
    // the number next to the last good one is alike with the other's here, which is BAD too
    Script.sides(check, "no such first PERSON", SMALL, "trades ? 0 1 1", 0, 0);
    Script.sides(check, "no such first COIN", SMALL, "trades 0 ? 1 1", 0, 0);
    Script.sides(check, "no such second PERSON", SMALL, "trades 0 0 ? 1", 1, 2);
    Script.sides(check, "no such second COIN", SMALL, "trades 0 0 1 ?", 1, 2);
    says("no such first PERSON, behind the last", Script.with(SMALL, "trades 3 0 1 1 = BAD", "trades 2 0 1 1 = STATE"));
    says("no such first COIN, behind the last", Script.with(SMALL, "trades 0 3 1 1 = BAD", "trades 0 2 1 1 = STATE"));
    says("no such second PERSON, ahead of the first", Script.with(SMALL, "trades 1 1 -1 0 = BAD", "trades 1 1 0 0 = 1"));
    says("no such second COIN, ahead of the first", Script.with(SMALL, "trades 1 1 0 -1 = BAD", "trades 1 1 0 0 = 1"));
    says("BAD: alike PEOPLE", Script.with(SMALL, "trades 1 1 1 2 = BAD", "finds 0 1 = 1", "trades 0 0 0 1 = BAD"));
    says("BAD: alike COINS", Script.with(SMALL, "finds 1 0 = 1", "trades 0 0 1 0 = BAD"));
    says("BAD comes ahead of STATE: alike, and he HOLDS none", Script.with(SMALL, "trades 2 0 2 1 = BAD", "trades 2 0 1 0 = BAD",
        "trades 2 0 2 0 = BAD"));
    says("BAD comes ahead of STATE: nobody, and he HOLDS none", Script.with(SMALL, "trades 2 0 3 1 = BAD", "trades 2 2 0 3 = BAD"));
    says("BAD comes ahead of STATE: alike, and of unlike WORTH", Script.with(SMALL, "trades 1 1 1 2 = BAD"));
  }

  private static void exchangedBeyondNinetyNine() {
    says("STATE: the first would HOLD more than 99", "tell c7 2;c7 2;p0;p0;h0 0 1;h0 1 9;h1 1 1; = 7", "finds 0 1 x90 = 99",
        "trades 0 0 1 1 = STATE", "loses 0 1 = 98", "trades 0 0 1 1 = 99");
    says("STATE: the second would HOLD more than 99", "tell c7 2;c7 2;p0;p0;h0 0 1;h1 0 9;h1 1 1; = 7", "finds 1 0 x90 = 99",
        "trades 0 0 1 1 = STATE", "loses 1 0 = 98", "trades 0 0 1 1 = 1", "holds 1 0 = 99");
    says("what he gives may be of 99", "tell c7 2;c7 2;p0;p0;h0 0 9;h1 1 1; = 6", "finds 0 0 x90 = 99", "trades 0 0 1 1 = 1", "holds 0 0 = 98");
  }

  private static void lost() {
    Script.sides(check, "nobody loses", SMALL, "loses ? 0", 0, 2);
    Script.sides(check, "no coin is lost", SMALL, "loses 0 ?", 0, 2);
    says("how many are left", Script.with(SMALL, "loses 1 1 = 1", "loses 1 1 = 0", "loses 1 1 = STATE", "coin 1 3 = 0"));
    says("STATE: he HOLDS none", Script.with(SMALL, "loses 2 0 = STATE", "loses 0 1 = STATE"));
    says("one of 99", "tell c7 1;p0;h0 0 9; = 3", "finds 0 0 x90 = 99", "loses 0 0 = 98", "finds 0 0 = 99");
    says("BAD comes ahead of STATE", Script.with(SMALL, "loses 2 3 = BAD", "loses 3 0 = BAD"));
  }

  private static void found() {
    Script.sides(check, "nobody finds", SMALL, "finds ? 0", 0, 2);
    Script.sides(check, "no coin is found", SMALL, "finds 0 ?", 0, 2);
    says("from none, from 9", "tell c7 1;p0;p0;h0 0 9; = 4", "finds 1 0 = 1", "finds 0 0 = 10");
    says("STATE: he HOLDS 99", "tell c7 1;c7 1;p0;p0;h0 0 9; = 5", "finds 0 0 x89 = 98", "finds 0 0 = 99", "finds 0 0 = STATE",
        "finds 1 0 = 1", "finds 0 1 = 1");
    says("BAD comes ahead of STATE", "tell c7 1;p0; = 2", "finds 0 0 x99 = 99", "finds 0 1 = BAD", "finds 1 0 = BAD", "finds 0 0 = STATE");
  }

  private static void passed() {
    Script.sides(check, "there is no such debt", SMALL, "passes ? 2", 0, 2);
    Script.sides(check, "nobody to pass it to", SMALL, "passes 0 ?", 0, 2);
    says("who the CREDITOR was", Script.with(SMALL, "passes 0 2 = 1", "debt 0 1 = 2", "debt 2 1 = 1", "passes 0 1 = 2", "debt 0 1 = 1"));
    says("STATE: it is not open", Script.with(SMALL, "pays 2 = 1", "passes 2 2 = STATE", "passes 2 0 = STATE", "passes 2 1 = STATE"));
    says("STATE: he is the DEBTOR", Script.with(SMALL, "passes 0 0 = STATE", "passes 1 1 = STATE"));
    says("STATE: he is the CREDITOR", Script.with(SMALL, "passes 0 1 = STATE", "passes 0 2 = 1", "passes 0 2 = STATE"));
    says("the DEBTOR still, once it was passed", Script.with(SMALL, "passes 0 2 = 1", "passes 0 0 = STATE"));
    says("to one to whom it can't be paid", "tell c7 2;p0;p0;p9;h0 0 2;d0 1 4;s1; = 7", "passes 0 2 = 1", "debt 0 4 = NONE");
    says("BAD comes ahead of STATE", Script.with(SMALL, "pays 2 = 1", "passes 2 3 = BAD", "passes 2 -1 = BAD", "passes 3 0 = BAD"));
    says("two people alone", "tell p0;p0;d0 1 1; = 3", "passes 0 0 = STATE", "passes 0 1 = STATE", "passes 0 2 = BAD");
  }

  private static void undone() {
    says("STATE: none", Script.with(SMALL, "undo = STATE"));
    says("PAID", Script.with(SMALL, "pays 0 = 2", "undo = 0", "debt 0 3 = 1", "holds 0 0 = 4", "holds 1 0 = 0", "undo = STATE"));
    says("EXCHANGED", Script.with(SMALL, "trades 0 0 1 1 = 1", "undo = 0", "holds 0 0 = 4", "holds 0 1 = 0", "holds 1 0 = 0", "holds 1 1 = 2"));
    says("LOST", Script.with(SMALL, "loses 1 2 = 0", "undo = 0", "holds 1 2 = 1"));
    says("FOUND", Script.with(SMALL, "finds 2 2 = 1", "undo = 0", "holds 2 2 = 0"));
    says("PASSED", Script.with(SMALL, "passes 0 2 = 1", "undo = 0", "debt 0 1 = 1"));
    says("the latest first", Script.with(SMALL, "finds 2 0 = 1", "finds 2 1 = 1", "undo = 1", "holds 2 0 = 1", "holds 2 1 = 0", "undo = 0",
        "holds 2 0 = 0"));
    says("what was undone is not known", Script.with(SMALL, "finds 2 0 = 1", "undo = 0", "loses 0 0 = 3", "undo = 0", "undo = STATE",
        "holds 0 0 = 4", "holds 2 0 = 0"));
    says("neither TOOK nor the text nor THE TRACE", Script.with(SMALL, "finds 2 0 = 1", "took 0 = 1", "write p = 1", "mark 0 0 = 2",
        "undo = 0", "count 4 = 1", "count 6 = 1", "trace = 1"));
    says("not keep: the image stays", Script.with(SMALL, "finds 2 0 = 1", "keep 0 = 3", "undo = 0", "back 0 = 3", "holds 2 0 = 1", "undo = 0"));
  }

  private static void undoneTen() {
    says("10 are known", "tell c7 1;p0; = 2", "finds 0 0 x9 = 9", "count 5 = 9", "finds 0 0 = 10", "count 5 = 10", "undo x9 = 1",
        "holds 0 0 = 1", "undo = 0", "holds 0 0 = 0", "undo = STATE");
    says("older ones are lost", "tell c7 1;p0; = 2", "finds 0 0 x11 = 11", "count 5 = 10", "undo x10 = 0", "holds 0 0 = 1", "undo = STATE");
    says("far older ones are lost", "tell c7 1;p0; = 2", "finds 0 0 x40 = 40", "count 5 = 10", "undo x10 = 0", "holds 0 0 = 30", "undo = STATE");
    says("room again behind undo", "tell c7 1;p0; = 2", "finds 0 0 x12 = 12", "undo x3 = 7", "loses 0 0 = 8", "count 5 = 8",
        "loses 0 0 x2 = 6", "count 5 = 10", "loses 0 0 = 5", "count 5 = 10", "undo x10 = 0", "holds 0 0 = 3", "undo = STATE");
    says("of all five sorts", "tell c7 1;c7 1;p0;p0;p0;h0 0 9;h1 1 9;d0 1 3;d0 1 2; = 9", "finds 2 0 = 1", "pays 0 = 3", "passes 1 2 = 1",
        "trades 0 0 1 1 = 1", "loses 1 1 = 7", "pays 1 = 2", "finds 2 1 = 2", "trades 0 0 1 1 = 1", "loses 0 1 = 0", "finds 1 1 = 7",
        "finds 1 1 = 8", "count 5 = 10", "undo x10 = 0", "holds 2 0 = 1", "holds 0 0 = 9", "now 0 = 3", "debt 1 1 = 1", "undo = STATE");
  }

  private static void refusedAreNotKnown() {
    says("what is refused is not known", Script.with(SMALL, "pays 3 = BAD", "pays 1 = 1", "pays 1 = STATE", "trades 0 0 0 1 = BAD",
        "trades 0 0 2 1 = STATE", "loses 2 2 = STATE", "loses 2 3 = BAD", "passes 1 2 = STATE", "passes 0 3 = BAD", "finds 3 0 = BAD",
        "count 5 = 1", "undo = 0", "undo = STATE", "count 5 = 0"));
  }

  private static void now() {
    Script.sides(check, "what of now", SMALL, "now ?", 0, 3);
    says("nothing", "tell c7 1; = 1", "now 0 = 0", "now 1 = 0", "now 2 = 0", "now 3 = 0");
    says("all five open, all helpless", "tell p0;p0;" + "d0 1 60;".repeat(5) + " = 7", "now 0 = 31", "now 1 = 31", "now 2 = 0", "now 3 = 300");
    says("none open", "tell c7 1;p0;p0;h0 0 1;d0 1 1; = 5", "now 0 = 1", "now 1 = 0", "now 3 = 1", "pays 0 = 1", "now 0 = 0", "now 3 = 0",
        "loses 1 0 = 0", "now 1 = 0", "now 2 = 0");
    says("WORTH of all that is held", "tell c7 9;c60 1;p0;p0;h0 0 9;h1 0 9;h1 1 9; = 7", "now 2 = 171", "finds 0 0 x90 = 99", "now 2 = 981");
    says("WORTH of what five hold, each one's last coin too", "tell " + "c7 1;".repeat(6) + "p0;".repeat(5)
        + "h0 5 1;h1 5 1;h2 5 1;h3 5 1;h4 5 1;d0 4 9;d0 3 9; = 18", "now 2 = 5", "now 3 = 18", "now 0 = 3", "now 1 = 3");
    says("HELPLESS by the CREDITOR of then", "tell c7 2;p0;p0;p1;h0 0 2;d0 1 4;s1; = 7", "now 1 = 0", "passes 0 2 = 1", "now 1 = 1");
  }
}
