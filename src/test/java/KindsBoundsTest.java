/** The edges of promises 24 to 28: mark, keep, back, count, trace. */
public final class KindsBoundsTest {
  private static final Check check = new Check("KindsBoundsTest");
  private static final String[] SMALL = {"tell c9 2;c60 1;p2;p3;p9;h0 0 4;d0 1 4;d1 0 3;s3; = 9"};

  public static void main(String[] args) {
    marks();
    marksAtTheirEnds();
    traces();
    kept();
    back();
    backToWhatMayBeUndone();
    nothingElse();
    counts();
    check.end();
  }

  private static void says(String title, String... lines) { Script.run(check, title, lines); }

  private static void marks() {
    Script.sides(check, "there is no such KIND", SMALL, "mark ? 0", 0, 5);
    Script.sides(check, "there is no such COIN", SMALL, "mark 0 ?", 0, 1);
    Script.sides(check, "there is no such COIN, as FAKE", SMALL, "mark 5 ?", 0, 1);
    says("both wrong", Script.with(SMALL, "mark 6 2 = NO", "mark -1 -1 = NO"));
    says("no coins", "tell p0; = 1", "mark 0 0 = NO", "trace = 0");
    says("COIN: its WORTH", Script.with(SMALL, "mark 0 0 = 2", "mark 0 1 = 1"));
    says("GROAT: and how many there are in all", Script.with(SMALL, "mark 1 0 = 6", "mark 1 1 = 1", "finds 2 1 = 1", "mark 1 1 = 2"));
    says("SIXPENCE: less the year", Script.with(SMALL, "mark 2 0 = -7", "mark 2 1 = -59"));
    says("FOUR: times 2", Script.with(SMALL, "mark 3 0 = 12", "mark 3 1 = 2"));
    says("WIDOW: and for how many it DOES", Script.with(SMALL, "mark 4 0 = -5", "mark 4 1 = -59"));
    says("FAKE: and how many DEBTS are open", Script.with(SMALL, "mark 5 0 = 4", "mark 5 1 = 3", "pays 0 = 2", "mark 5 0 = 3", "undo = 0",
        "mark 5 0 = 4"));
  }

  private static void marksAtTheirEnds() {
    says("the lowest", "tell c60 1; = 1", "mark 2 0 = -59", "mark 4 0 = -59", "mark 5 0 = 1", "mark 1 0 = 1");
    says("struck in 0", "tell c0 9; = 1", "mark 2 0 = 9", "mark 4 0 = 9");
    says("for all five", "tell c7 9;p0;p0;p0;p0;p0; = 6", "mark 4 0 = 7");
    says("all five open", "tell c7 9;p0;p0;" + "d0 1 1;".repeat(5) + " = 8", "mark 5 0 = 14");
    says("99 and more in all", "tell c7 9;p0;p0;h0 0 9;h1 0 9; = 5", "finds 0 0 x90 = 99", "mark 1 0 = 117", "mark 3 0 = 234");
  }

  private static void traces() {
    says("at first", "trace = 0");
    says("COIN (1)", Script.with(SMALL, "mark 0 0 = 2", "trace = 1", "mark 0 1 = 1", "trace = 2"));
    says("GROAT (10), and COIN", Script.with(SMALL, "mark 1 0 = 6", "trace = 11"));
    says("SIXPENCE (100), and COIN", Script.with(SMALL, "mark 2 0 = -7", "trace = 101"));
    says("FOUR (1000), GROAT and COIN once", Script.with(SMALL, "mark 3 0 = 12", "trace = 1011"));
    says("WIDOW (10000), SIXPENCE and COIN", Script.with(SMALL, "mark 4 0 = -5", "trace = 10101"));
    says("FAKE (100000), and COIN", Script.with(SMALL, "mark 5 0 = 4", "trace = 100001"));
    says("refused: nothing comes to it", Script.with(SMALL, "mark 6 0 = NO", "mark 0 2 = NO", "trace = 0", "mark 5 0 = 4", "mark -1 0 = NO",
        "trace = 100001"));
    says("nothing else comes to it", Script.with(SMALL, "coin 0 1 = 2", "coin 0 3 = 4", "person 0 2 = 8", "now 2 = 8", "pays 0 = 2", "keep 0 = 1",
        "trace = 0"));
    says("it is not UNDONE, not brought back, not read anew", Script.with(SMALL, "keep 0 = 2", "finds 0 0 = 5", "mark 0 0 = 2", "undo = 0",
        "trace = 1", "back 0 = 2", "trace = 1", "tell p0; = 1", "trace = 1"));
    says("many", Script.with(SMALL, "mark 5 0 x300 = 4", "trace = 30000300"));
  }

  private static void kept() {
    Script.sides(check, "IMAGES 0, 1: keep", SMALL, "keep ?", 0, 1);
    says("how many DEBTS are open", Script.with(SMALL, "keep 0 = 2", "pays 0 = 2", "keep 1 = 1", "keep 0 = 1"));
    says("none, five", "keep 0 = 0", "tell p0;p0;" + "d0 1 1;".repeat(5) + " = 7", "keep 1 = 5", "back 1 = 5");
    says("keep is no deed", Script.with(SMALL, "keep 0 = 2", "count 5 = 0", "undo = STATE"));
    says("kept again: the later", Script.with(SMALL, "keep 0 = 2", "finds 0 0 = 5", "keep 0 = 2", "finds 0 0 = 6", "back 0 = 2", "holds 0 0 = 5"));
  }

  private static void back() {
    Script.sides(check, "IMAGES 0, 1: back", Script.with(SMALL, "keep 0 = 2", "keep 1 = 2"), "back ?", 0, 1);
    says("STATE: none was kept", Script.with(SMALL, "back 0 = STATE", "back 1 = STATE"));
    says("STATE: the other was kept", Script.with(SMALL, "keep 0 = 2", "back 1 = STATE", "back 0 = 2"));
    says("STATE: the first was not kept", Script.with(SMALL, "keep 1 = 2", "back 0 = STATE", "back 1 = 2"));
    says("BAD comes ahead of STATE", Script.with(SMALL, "back -1 = BAD", "back 2 = BAD"));
    says("what all HOLD", Script.with(SMALL, "keep 0 = 2", "finds 2 1 = 1", "loses 0 0 = 3", "back 0 = 2", "holds 2 1 = 0", "holds 0 0 = 4"));
    says("who the CREDITORS are", Script.with(SMALL, "keep 0 = 2", "passes 0 2 = 1", "back 0 = 2", "debt 0 1 = 1"));
    says("which DEBTS are open", Script.with(SMALL, "keep 0 = 2", "pays 0 = 2", "now 0 = 2", "back 0 = 2", "now 0 = 3"));
    says("forward again", Script.with(SMALL, "keep 0 = 2", "pays 0 = 2", "keep 1 = 1", "back 0 = 2", "back 1 = 1", "now 0 = 2", "holds 1 0 = 2"));
    says("an IMAGE stays as it is", Script.with(SMALL, "keep 0 = 2", "back 0 = 2", "finds 0 0 = 5", "back 0 = 2", "holds 0 0 = 4", "back 0 = 2"));
    says("the other IMAGE stays", Script.with(SMALL, "keep 0 = 2", "finds 0 0 = 5", "keep 1 = 2", "back 0 = 2", "loses 0 0 = 3", "back 1 = 2",
        "holds 0 0 = 5"));
    says("gone with the next text, not with a fault", Script.with(SMALL, "keep 0 = 2", "tell x = FAULT 0", "back 0 = 2", "clear = 1", "land = 0",
        "back 0 = STATE"));
  }

  private static void backToWhatMayBeUndone() {
    says("nothing to be UNDONE", Script.with(SMALL, "keep 0 = 2", "finds 0 0 x3 = 7", "back 0 = 2", "count 5 = 0", "undo = STATE"));
    says("ten to be UNDONE", Script.with(SMALL, "finds 0 0 x12 = 16", "keep 1 = 2", "undo x10 = 0", "finds 1 0 = 1", "loses 0 0 x3 = 3",
        "back 1 = 2", "count 5 = 10", "undo = 9", "holds 0 0 = 15", "undo x6 = 3", "holds 0 0 = 9", "undo x3 = 0", "holds 0 0 = 6", "holds 1 0 = 0",
        "undo = STATE"));
    says("twice the same", Script.with(SMALL, "finds 0 0 x2 = 6", "keep 0 = 2", "undo x2 = 0", "back 0 = 2", "undo x2 = 0", "holds 0 0 = 4",
        "back 0 = 2", "count 5 = 2", "undo = 1", "holds 0 0 = 5"));
    says("back itself can't be UNDONE", Script.with(SMALL, "keep 0 = 2", "finds 0 0 = 5", "back 0 = 2", "undo = STATE", "holds 0 0 = 4"));
  }

  private static void nothingElse() {
    says("not TOOK, not THE TEXT, not THE TRACE", Script.with(SMALL, "took 0 = 1", "write p = 1", "mark 0 0 = 2", "keep 0 = 2", "took 1 = 2",
        "write 0; = 3", "mark 0 0 = 2", "back 0 = 2", "count 4 = 2", "count 6 = 3", "trace = 2", "years 0 = 0", "land = 1"));
  }

  private static void counts() {
    Script.sides(check, "what 0 .. 6", SMALL, "count ?", 0, 6);
    says("what there is", Script.with(SMALL, "took 1 x4 = 4", "finds 0 1 x5 = 5", "write abcdef = 6", "count 0 = 2", "count 1 = 3", "count 2 = 2",
        "count 3 = 3", "count 4 = 4", "count 5 = 5", "count 6 = 6"));
    says("a paid DEBT is still one", Script.with(SMALL, "pays 0 = 2", "count 2 = 2"));
  }
}
