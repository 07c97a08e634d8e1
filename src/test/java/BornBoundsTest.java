/** The edges of promises 21 to 23: took, forget, years. */
public final class BornBoundsTest {
  private static final Check check = new Check("BornBoundsTest");
  private static final String[] SMALL = {"tell c10 2;c12 3;p3;h0 0 4;s3; = 5", "finds 0 0 = 5", "keep 0 = 0"};

  public static void main(String[] args) {
    took();
    forget();
    years();
    firstAndLast();
    check.end();
  }

  private static void says(String title, String... lines) { Script.run(check, title, lines); }

  private static void took() {
    Script.sides(check, "there is no such coin", SMALL, "took ?", 0, 1);
    Script.sides(check, "there is no such coin of six", new String[] {"tell " + "c0 1;".repeat(6) + " = 6"}, "took ?", 0, 5);
    says("6 at most", Script.with(SMALL, "took 0 x5 = 5", "took 1 = 6", "took 0 = FULL", "took 1 = FULL", "count 4 = 6"));
    says("BAD comes ahead of FULL", Script.with(SMALL, "took 0 x6 = 6", "took 2 = BAD", "took -1 = BAD", "count 4 = 6"));
    says("alike ones count", Script.with(SMALL, "took 0 = 1", "took 0 = 2", "count 4 = 2"));
    says("there need be nobody, none need be held", "tell c10 2; = 1", "took 0 = 1");
    says("no coins", "tell p0; = 1", "took 0 = BAD");
    says("it is no deed: it can't be UNDONE, an IMAGE has nothing of it", Script.with(SMALL, "took 0 = 1", "count 5 = 1", "undo = 0",
        "count 4 = 1", "back 0 = 0", "count 4 = 1"));
  }

  private static void forget() {
    says("how much there was", Script.with(SMALL, "forget = 0", "took 0 x2 = 2", "forget = 2", "count 4 = 0", "forget = 0", "took 1 = 1"));
    says("room again", Script.with(SMALL, "took 0 x6 = 6", "forget = 6", "took 0 x6 = 6", "took 0 = FULL"));
    says("nothing else", Script.with(SMALL, "took 0 = 1", "write p = 1", "forget = 1", "count 5 = 1", "count 6 = 1", "holds 0 0 = 5",
        "years 0 = 61", "back 0 = 0"));
  }

  private static void years() {
    Script.sides(check, "what 0 .. 2", SMALL, "years ?", 0, 2);
    says("nothing TOOK: all of 0 .. 60", Script.with(SMALL, "years 0 = 61", "years 1 = 0", "years 2 = 60"));
    says("one coin: SPAN years", Script.with(SMALL, "took 0 = 1", "years 0 = 3", "years 1 = 3", "years 2 = 5"));
    says("two coins: one year", Script.with(SMALL, "took 0 = 1", "took 1 = 2", "years 0 = 1", "years 1 = 5", "years 2 = 5"));
    says("alike coins: no fewer", Script.with(SMALL, "took 0 x6 = 6", "years 0 = 3"));
    says("NONE: two coins never about together", "tell c10 1;c13 1;s3; = 3", "took 0 = 1", "took 1 = 2", "years 0 = 0", "years 1 = NONE",
        "years 2 = NONE", "forget = 2", "years 0 = 61");
    says("the sixth counts", "tell c10 1;c13 1;s3; = 3", "took 0 x5 = 5", "years 0 = 3", "took 1 = 6", "years 0 = 0");
    says("what is refused does not", "tell c10 1;c13 1;s3; = 3", "took 0 x6 = 6", "took 1 = FULL", "years 0 = 3");
    says("no coins", "tell p0; = 1", "years 0 = 61", "years 1 = 0", "years 2 = 60", "years 3 = BAD");
  }

  /** A coin struck in y is about in y .. y + SPAN - 1, for those born 7 years earlier, within 0 .. 60. */
  private static void firstAndLast() {
    says("NONE: gone ahead of the year 7", "tell c0 1;s7; = 2", "took 0 = 1", "years 0 = 0", "years 1 = NONE", "years 2 = NONE");
    says("just the year 0", "tell c0 1;s8; = 2", "took 0 = 1", "years 0 = 1", "years 1 = 0", "years 2 = 0");
    says("cut off at 0", "tell c6 1;s3; = 2", "took 0 = 1", "years 0 = 2", "years 1 = 0", "years 2 = 1");
    says("just from 0", "tell c7 1;s3; = 2", "took 0 = 1", "years 0 = 3", "years 1 = 0", "years 2 = 2");
    says("the longest", "tell c20 1;s20; = 2", "took 0 = 1", "years 0 = 20", "years 1 = 13", "years 2 = 32");
    says("the shortest", "tell c20 1;s1; = 2", "took 0 = 1", "years 0 = 1", "years 1 = 13", "years 2 = 13");
    says("not yet cut off at 60", "tell c60 1;s8; = 2", "took 0 = 1", "years 0 = 8", "years 1 = 53", "years 2 = 60");
    says("cut off at 60", "tell c60 1;s9; = 2", "took 0 = 1", "years 0 = 8", "years 1 = 53", "years 2 = 60");
    says("SPAN 9 at first", "tell c30 1; = 1", "took 0 = 1", "years 0 = 9", "years 1 = 23", "years 2 = 31");
  }
}
