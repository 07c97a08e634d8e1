/** Promises 21 to 23: took, forget, years. */
public final class BornTest {
  private static final int BAD = ChildCoins.BAD, NONE = ChildCoins.NONE;
  private static final Check check = new Check("BornTest");

  public static void main(String[] args) {
    taking();
    years();
    check.end();
  }

  private static void taking() {
    ChildCoins x = Check.land("c10 1;c12 1;");
    check.due("took(-1)", x.took(-1), BAD);
    check.due("took(2)", x.took(2), BAD);
    for (int i = 1; i <= 6; i++) check.due("took", x.took(i % 2), i);
    check.due("seventh", x.took(0), ChildCoins.FULL);
    check.due("bad seventh", x.took(2), BAD);
    check.due("count(4)", x.count(4), 6);
    check.due("forget", x.forget(), 6);
    check.due("forget again", x.forget(), 0);
    check.due("count(4) then", x.count(4), 0);
    check.due("took then", x.took(0), 1);
    check.due("no coins", new ChildCoins().took(0), BAD);
  }

  private static void yearsAre(ChildCoins x, int many, int first, int last) {
    check.due("years(0)", x.years(0), many);
    check.due("years(1)", x.years(1), first);
    check.due("years(2)", x.years(2), last);
  }

  private static void years() {
    ChildCoins x = Check.land("c10 1;c13 1;c0 1;c60 1;c14 1;s4;");
    yearsAre(x, 61, 0, 60);
    x.took(0);
    yearsAre(x, 4, 3, 6);
    x.took(1);
    yearsAre(x, 1, 6, 6);
    x.took(4);
    yearsAre(x, 0, NONE, NONE);
    x.forget();
    x.took(2);
    yearsAre(x, 0, NONE, NONE);
    x.forget();
    x.took(3);
    yearsAre(x, 4, 53, 56);
    x.took(3);
    yearsAre(x, 4, 53, 56);
    check.due("years(-1)", x.years(-1), BAD);
    check.due("years(3)", x.years(3), BAD);
    ChildCoins y = Check.land("c60 1;c1 1;s20;");
    y.took(0);
    yearsAre(y, 8, 53, 60);
    y.forget();
    y.took(1);
    yearsAre(y, 14, 0, 13);
  }
}
