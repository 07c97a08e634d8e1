/** The edges of promises 1 to 4 and of the text's terms: a new object, type, clear, land. */
public final class TextBoundsTest {
  private static final Check check = new Check("TextBoundsTest");
  private static final String PEOPLE_2 = "p0;p0;";
  /** A land with something to lose: done, kept and taken, so that a fault that changes anything is seen. */
  private static final String[] LIVING = {
    "tell s3;c9 2;c9 3;p2;p3;h0 0 4;h1 1 2;d0 1 4;d1 0 3; = 9", "finds 0 0 = 5", "keep 0 = 2", "pays 0 = 2",
    "keep 1 = 1", "took 1 = 1", "mark 1 0 = 7"};

  public static void main(String[] args) {
    newObject();
    bytes();
    fullText();
    cleared();
    emptyText();
    tooMany();
    numbersOfItems();
    toldAhead();
    toldAgain();
    spanOnce();
    tokens();
    wrongNumbers();
    wrongBytes();
    wrongLetters();
    wrongOrderOfTokens();
    endsTooEarly();
    firstFault();
    faultsKeepAll();
    readAnew();
    check.end();
  }

  private static void says(String title, String... lines) { Script.run(check, title, lines); }

  private static void reads(String title, String text, int items) {
    says(title, "tell " + text + " = " + items, "count 6 = 0");
  }

  private static void fault(String title, String text, int place) {
    says(title, "tell " + text + " = FAULT " + place, "count 6 = " + text.length());
  }

  private static void newObject() {
    says("no COINS, nobody", "count 0 = 0", "count 1 = 0", "count 2 = 0", "count 3 = 9", "count 4 = 0", "count 5 = 0",
        "count 6 = 0", "coin 0 0 = BAD", "person 0 0 = BAD", "holds 0 0 = BAD", "debt 0 0 = BAD", "trace = 0");
    says("nothing can be done", "pays 0 = BAD", "trades 0 0 1 1 = BAD", "loses 0 0 = BAD", "finds 0 0 = BAD",
        "passes 0 0 = BAD", "undo = STATE", "pieces 0 0 = BAD", "lender 0 = BAD", "corner 0 = BAD", "odds 0 0 0 = BAD",
        "took 0 = BAD", "mark 0 0 = NO", "back 0 = STATE", "back 1 = STATE");
    says("nothing is there", "now 0 = 0", "now 1 = 0", "now 2 = 0", "now 3 = 0", "order -1 = 0", "order 0 = NONE",
        "order 4 = NONE", "clear = 0", "forget = 0", "years 0 = 61", "years 1 = 0", "years 2 = 60", "keep 0 = 0",
        "back 0 = 0", "land = 0");
  }

  private static void bytes() {
    Script.sides(check, "a byte (0 .. 255)", LIVING, "type ?", 0, 255);
    says("how many it has", "type 0 = 1", "type 255 = 2", "type -1 = BAD", "type 256 = BAD", "type 32 = 3", "count 6 = 3");
  }

  private static void fullText() {
    says("180 bytes at most", "type 32 x179 = 179", "type 32 = 180", "type 32 = FULL", "type 0 = FULL", "type 255 = FULL",
        "count 6 = 180");
    says("BAD comes ahead of FULL", "type 32 x180 = 180", "type -1 = BAD", "type 256 = BAD", "count 6 = 180");
    says("room again behind clear", "type 32 x180 = 180", "clear = 180", "type 32 = 1");
    says("room again behind land", "type 32 x180 = 180", "land = 0", "type 32 = 1");
    says("no room behind a fault", "type 33 x180 = 180", "land = FAULT 0", "type 33 = FULL", "clear = 180");
    says("a full text is read to its last byte", "write " + " ".repeat(175) + "c60 9 = 180", "type 59 = FULL", "land = FAULT 180");
    says("a full text is read whole", "write " + " ".repeat(174) + "c60 9; = 180", "land = 1", "coin 0 0 = 60");
    says("a fault at the last byte", "write " + " ".repeat(179) + "? = 180", "land = FAULT 179");
    says("most items of a text", "write " + "c0 1;p0;" + "h0 0 1;".repeat(24) + "     = 180", "land = 26");
  }

  private static void cleared() {
    says("how many bytes it had", "clear = 0", "write abc = 3", "clear = 3", "count 6 = 0", "clear = 0");
    says("the text alone is empty", Script.with(LIVING, "write p1 = 2", "clear = 2", "count 0 = 2", "holds 0 0 = 3",
        "count 4 = 1", "count 5 = 2", "trace = 11", "back 0 = 2"));
    says("what was cleared is not read", "write p0;x = 4", "clear = 4", "tell p1; = 1", "person 0 0 = 1");
  }

  private static void emptyText() {
    says("an empty text tells a land of nothing", Script.with(LIVING, "land = 0", "count 0 = 0", "count 1 = 0", "count 2 = 0",
        "count 3 = 9", "count 4 = 0", "count 5 = 0", "back 0 = STATE", "back 1 = STATE", "now 0 = 0"));
    reads("one blank", " ", 0);
    reads("blanks alone", "       ", 0);
  }

  private static void tooMany() {
    says("6 COINS at most", "tell " + "c0 1;".repeat(6) + " = 6", "count 0 = 6", "coin 5 1 = 1", "coin 6 1 = BAD");
    fault("a seventh coin", "c0 1;".repeat(7), 30);
    fault("a seventh coin behind others", "c0 1;".repeat(6) + "p0; c", 34);
    says("5 PEOPLE at most", "tell " + "p0;".repeat(5) + " = 5", "count 1 = 5", "person 4 0 = 0", "person 5 0 = BAD");
    fault("a sixth person", "p0;".repeat(6), 15);
    fault("a sixth person, its number missing", "p0;".repeat(5) + " p", 16);
    says("5 DEBTS at most", "tell p0;p0;" + "d0 1 1;".repeat(5) + " = 7", "count 2 = 5", "debt 4 2 = 1", "debt 5 2 = BAD");
    fault("a sixth debt", PEOPLE_2 + "d0 1 1;".repeat(6), 41);
    fault("a sixth debt, of whatever", PEOPLE_2 + "d0 1 1;".repeat(5) + "d9", 41);
    says("all of them at their most", "tell " + "c0 1;".repeat(6) + "p0;".repeat(5) + "d0 1 1;".repeat(5) + "s1; = 17",
        "count 0 = 6", "count 1 = 5", "count 2 = 5");
  }

  private static void numbersOfItems() {
    says("STRUCK 0 .. 60", "tell c0 1;c60 1; = 2", "coin 0 0 = 0", "coin 1 0 = 60");
    fault("STRUCK 61", "c61 1;", 1);
    fault("STRUCK -1", "c-1 1;", 1);
    says("WORTH 1 .. 9", "tell c0 1;c0 9; = 2", "coin 0 1 = 1", "coin 1 1 = 9");
    fault("WORTH 0", "c0 0;", 3);
    fault("WORTH 10", "c0 10;", 3);
    says("BORN 0 .. 60", "tell p0;p60; = 2", "person 0 0 = 0", "person 1 0 = 60");
    fault("BORN 61", "p61;", 1);
    fault("BORN -1", "p-1;", 1);
    says("HOLDS 0 .. 9", "tell c0 1;c0 1;p0;h0 0 0;h0 1 9; = 5", "holds 0 0 = 0", "holds 0 1 = 9");
    fault("HOLDS 10", "c0 1;p0;h0 0 10;", 13);
    fault("HOLDS -1", "c0 1;p0;h0 0 -1;", 13);
    says("HOLDS none at first", "tell c0 1;p0; = 2", "holds 0 0 = 0");
    says("SUM 1 .. 60", "tell p0;p0;d0 1 1;d0 1 60; = 4", "debt 0 2 = 1", "debt 1 2 = 60");
    fault("SUM 0", PEOPLE_2 + "d0 1 0;", 11);
    fault("SUM 61", PEOPLE_2 + "d0 1 61;", 11);
    says("SPAN 1", "tell s1; = 1", "count 3 = 1");
    says("SPAN 20", "tell s20; = 1", "count 3 = 20");
    fault("SPAN 0", "s0;", 1);
    fault("SPAN 21", "s21;", 1);
    says("SPAN 9 at first", "tell p0; = 1", "count 3 = 9");
  }

  private static void toldAhead() {
    fault("h of nobody", "c0 1;h0 0 1;", 6);
    fault("h of no coin", "p0;h0 0 1;", 6);
    fault("h ahead of its person", "c0 1;h0 0 1;p0;", 6);
    fault("h ahead of its coin", "p0;h0 0 1;c0 1;", 6);
    says("h of the last ones", "tell c0 1;c0 1;p0;p0;p0;h2 1 4; = 6", "holds 2 1 = 4");
    fault("h of the person behind the last", "c0 1;c0 1;p0;p0;p0;h3 1 4;", 20);
    fault("h of the coin behind the last", "c0 1;c0 1;p0;p0;p0;h2 2 4;", 22);
    says("h of the highest", "tell " + "c0 1;".repeat(6) + "p0;".repeat(5) + "h4 5 9; = 12", "holds 4 5 = 9");
    fault("h of the sixth person", "c0 1;".repeat(6) + "p0;".repeat(5) + "h5 5 9;", 46);
    fault("h of the seventh coin", "c0 1;".repeat(6) + "p0;".repeat(5) + "h4 6 9;", 48);
    fault("d of nobody", "d0 1 1;", 1);
    fault("d of one alone", "p0;d0 1 1;", 6);
    fault("d ahead of its people", "d0 1 1;p0;p0;", 1);
    fault("d ahead of its creditor", "p0;d0 1 1;p0;", 6);
    says("d of the last ones", "tell p0;p0;p0;d2 1 1;d1 2 1; = 5", "debt 0 0 = 2", "debt 1 1 = 2");
    fault("d of a debtor behind the last", "p0;p0;p0;d3 1 1;", 10);
    fault("d to a creditor behind the last", "p0;p0;p0;d1 3 1;", 12);
    fault("B that is A", PEOPLE_2 + "d0 0 1;", 9);
    fault("B that is A, both the last", PEOPLE_2 + "d1 1 1;", 9);
    says("others may come in between", "tell p0;c0 1;h0 0 1;c0 2;h0 1 2;p0;d1 0 3;s2;h1 0 3; = 9", "holds 0 1 = 2", "holds 1 0 = 3");
  }

  private static void toldAgain() {
    says("told again: the later", "tell c0 1;p0;h0 0 9;h0 0 3; = 4", "holds 0 0 = 3");
    says("told again: none", "tell c0 1;p0;h0 0 9;h0 0 0; = 4", "holds 0 0 = 0");
    says("told again behind others", "tell c0 1;c0 1;p0;h0 0 9;h0 1 4;h0 0 5; = 6", "holds 0 0 = 5", "holds 0 1 = 4");
  }

  private static void spanOnce() {
    fault("s again", "s5;s5;", 3);
    fault("s again, its number missing", "s5; s", 4);
    fault("s again behind others", "s5;c0 1;s6;", 8);
    says("s behind all holds for all", "tell c0 1;p0;s8; = 3", "coin 0 2 = 1");
    says("s ahead of all", "tell s7;c0 1;p0; = 3", "coin 0 2 = 0");
    says("s in a later text", "tell s5; = 1", "tell s6; = 1", "count 3 = 6", "tell p0; = 1", "count 3 = 9");
    says("s behind a fault", "tell s5;s5; = FAULT 3", "clear = 6", "tell s7; = 1", "count 3 = 7");
  }

  private static void tokens() {
    reads("no blanks where none are needed", "c0 1;p0;", 2);
    reads("blanks at both ends", "   p0;   ", 1);
    reads("blanks between all", "  c   0   1   ;   p   0  ;  ", 2);
    reads("an item behind its ; at once", "p0;p0;p0;", 3);
    fault("blanks part numbers", "p1 2;", 3);
    fault("blanks part letters", "c c0 1;", 2);
    fault("numbers side by side are one", "c01;", 1);
    fault("numbers side by side are one, above what may be", "c609;", 1);
    fault("numbers side by side are one, then the next is missing", "c55;", 3);
    fault("letters side by side are one", "cp0;", 0);
  }

  private static void wrongNumbers() {
    fault("99 is a NUMBER beyond what may be", "p99;", 1);
    fault("100 is above 99", "p100;", 1);
    fault("far above 99", "p 4294967296;", 2);
    fault("wrapped around", "p18446744073709551616;", 1);
    fault("a 0 ahead of 0", "p00;", 1);
    fault("a 0 ahead of 1", "p01;", 1);
    fault("a 0 ahead of others", "p012;", 1);
    fault("many 0", "p0000000000;", 1);
    fault("a 0 ahead in WORTH", "c0 01;", 3);
    fault("a 0 ahead in SUM", PEOPLE_2 + "d0 1 01;", 11);
    fault("a 0 ahead in HOLDS", "c0 1;p0;h0 0 00;", 13);
    fault("a 0 ahead in SPAN", "s09;", 1);
    fault("a wrong number where ; is due", "p0 100;", 3);
    fault("a wrong number where an item begins", "100;", 0);
    reads("two digits", "p10;", 1);
    reads("0 alone", "p0;", 1);
  }

  private static void wrongBytes() {
    // next to the blank, the digits, the ; and the letters, and at both ends
    for (int b : new int[] {0, 9, 10, 31, 33, 47, 58, 60, 64, 65, 90, 91, 96, 123, 127, 128, 160, 178, 255}) {
      fault("byte " + b + " first", (char) b + "p0;", 0);
      fault("byte " + b + " behind the letters", "p" + (char) b + "0;", 1);
      fault("byte " + b + " behind a number", "p0" + (char) b + ";", 2);
      fault("byte " + b + " behind an item", "p0;" + (char) b, 3);
      fault("byte " + b + " behind a blank", "p0; " + (char) b, 4);
    }
  }

  private static void wrongLetters() {
    for (char letter = 'a'; letter <= 'z'; letter++) {
      if ("cphds".indexOf(letter) < 0) fault("letters that begin no ITEM: " + letter, "p0; " + letter + "0;", 4);
      fault("letters that begin no ITEM, two: p" + letter, "p0; p" + letter + "0;", 4);
      fault("letters that begin no ITEM, two: " + letter + "p", "p0; " + letter + "p0;", 4);
    }
    fault("capitals are no letters", "P0;", 0);
    fault("letters where a number is due", "p p;", 2);
    fault("letters where ; is due", "p0 p0;", 3);
    fault("letters behind a number at once", "p0p0;", 2);
  }

  private static void wrongOrderOfTokens() {
    fault("; first", ";p0;", 0);
    fault("; twice", "p0;;", 3);
    fault("a number first", "1p0;", 0);
    // 99 is the byte of the letter c
    fault("a number first, its items' numbers behind it", "99 0 1;", 0);
    String[] items = {"c 1 2 ;", "p 1 ;", "h 0 0 1 ;", "d 0 1 5 ;", "s 5 ;"};
    String land = "c0 1;p0;p0;";
    for (String item : items) {
      int numbers = item.split(" ").length - 2;
      for (int k = 0; k < numbers; k++) {
        int place = land.length() + 2 + 2 * k;
        String ahead = land + item.substring(0, 2 + 2 * k);
        fault("; where number " + k + " is due", ahead + ";", place);
        fault("letters where number " + k + " is due", ahead + "c", place);
      }
      int last = land.length() + 2 + 2 * numbers;
      fault("a number where ; is due", land + item.substring(0, item.length() - 1) + "1;", last);
      fault("letters where ; is due", land + item.substring(0, item.length() - 1) + "p1;", last);
      reads("the item as it is", land + item, 4);
    }
  }

  private static void endsTooEarly() {
    String land = "c0 1;p0;p0;";
    for (String item : new String[] {"c 1 2 ;", "p 1 ;", "h 0 0 1 ;", "d 0 1 5 ;", "s 5 ;"}) {
      for (int end = 1; end < item.length(); end++) {
        String text = land + item.substring(0, end);
        fault("the text's length, if it ends too early", text, text.length());
      }
    }
    fault("blanks behind count", "p0   ", 5);
    fault("a full text that ends too early", "p0" + " ".repeat(178), 180);
    fault("the shortest", "p", 1);
  }

  private static void firstFault() {
    fault("the first of two faults", "p61;x", 1);
    fault("the first of two faults, of unlike sorts", "p0;x;p61", 3);
    fault("a wrong byte behind a fault", "p61?", 1);
    fault("a fault behind a wrong byte", "?p61", 0);
    fault("a wrong number ahead of a seventh coin", "p00;" + "c0 1;".repeat(7), 1);
    fault("P ahead of C ahead of N", "c0 1;p0;h1 1 10;", 9);
    fault("C ahead of N", "c0 1;p0;h0 1 10;", 11);
    fault("A ahead of B ahead of SUM", PEOPLE_2 + "d2 2 0;", 7);
    fault("B ahead of SUM", PEOPLE_2 + "d0 0 0;", 9);
    fault("STRUCK ahead of WORTH", "c61 0;", 1);
  }

  private static void faultsKeepAll() {
    faultKeepsAll("x", 0);
    faultKeepsAll("?", 0);
    faultKeepsAll("p", 1);
    faultKeepsAll("s1;s1;", 3);
    faultKeepsAll("c1 1;p61;", 6);
    faultKeepsAll("p0;c0 1;h0 0 9;s20;p", 20);
    says("a text with a fault may be gone on with", "tell p0;p = FAULT 4", "write 1; = 6", "land = 2", "person 1 0 = 1");
  }

  private static void faultKeepsAll(String text, int place) {
    says("-10 less FAULT: nothing changes", Script.with(LIVING, "tell " + text + " = FAULT " + place,
        "land = FAULT " + place, "count 0 = 2", "count 1 = 2", "count 2 = 2", "count 3 = 3", "count 4 = 1", "count 5 = 2",
        "holds 0 0 = 3", "debt 0 3 = 0", "trace = 11", "undo = 1", "back 0 = 2", "back 1 = 1"));
  }

  private static void readAnew() {
    says("read anew: as told", Script.with(LIVING, "tell c5 4;p0;p1;p2;h2 0 7;d2 0 9;d0 1 2;d1 0 3; = 8", "count 0 = 1",
        "count 1 = 3", "count 2 = 3", "count 3 = 9", "holds 0 0 = 0", "holds 1 0 = 0", "holds 2 0 = 7", "debt 0 1 = 0"));
    says("all DEBTS open", Script.with(LIVING, "now 0 = 2", "tell p0;p0;d0 1 1;d1 0 1; = 4", "now 0 = 3"));
    says("nothing TOOK", Script.with(LIVING, "tell c5 4; = 1", "count 4 = 0", "years 0 = 61", "forget = 0"));
    says("nothing to be UNDONE", Script.with(LIVING, "count 5 = 2", "tell p0; = 1", "count 5 = 0", "undo = STATE"));
    says("IMAGES are gone", Script.with(LIVING, "tell p0; = 1", "back 0 = STATE", "back 1 = STATE", "keep 1 = 0", "back 1 = 0",
        "back 0 = STATE"));
    says("THE TEXT is empty then", "tell p0;p1; = 2", "count 6 = 0", "clear = 0", "type 32 = 1");
    says("the same text again", "tell c0 1;p0;h0 0 5; = 3", "loses 0 0 = 4", "tell c0 1;p0;h0 0 5; = 3", "holds 0 0 = 5");
    says("nothing told of what is held", "tell c0 1;p0;h0 0 5; = 3", "tell c0 1;p0; = 2", "holds 0 0 = 0", "tell c0 1;p0; = 2", "holds 0 0 = 0");
    says("less than ahead of it", "tell c0 1;c0 1;p0;p0;h1 1 9;d1 0 3;s2; = 7", "tell c0 1;p0; = 2", "coin 1 0 = BAD",
        "person 1 0 = BAD", "debt 0 0 = BAD", "tell c0 1;c0 1;p0;p0;d0 1 2; = 5", "holds 1 1 = 0", "debt 0 2 = 2");
  }
}
