/** Promises 24 to 28: mark, keep, back, count, trace. */
public final class KindsTest {
  private static final int BAD = ChildCoins.BAD, STATE = ChildCoins.STATE;
  private static final Check check = new Check("KindsTest");

  public static void main(String[] args) {
    marks();
    images();
    imagesKeepWhatMayBeUndone();
    counts();
    check.end();
  }

  private static void marks() {
    ChildCoins x = Check.land("c10 3;c50 9;p3;p4;p20;h0 0 2;h2 0 5;d0 1 60;d1 0 60;s9;");
    int[] want = {3, 10, -7, 20, -5, 5};
    long[] traced = {1, 11, 101, 1011, 10101, 100001};
    long trace = 0;
    for (int kind = 0; kind < want.length; kind++) {
      check.due("mark(" + kind + ", 0)", x.mark(kind, 0), want[kind]);
      trace += traced[kind];
      check.due("trace after kind " + kind, x.trace(), trace);
    }
    check.due("mark(2, 1)", x.mark(2, 1), -41);
    trace += 101;
    int[][] bad = {{-1, 0}, {6, 0}, {0, -1}, {0, 2}};
    for (int[] b : bad) check.due("mark bad", x.mark(b[0], b[1]), ChildCoins.NO);
    check.due("trace then", x.trace(), trace);
    x.finds(1, 0);
    check.due("GROAT then", x.mark(1, 0), 11);
    x.undo();
    check.due("GROAT undone", x.mark(1, 0), 10);
    trace += 22;
    x.keep(0);
    x.back(0);
    x.land();
    check.due("the trace stays", x.trace(), trace);
    check.due("no coins", x.mark(0, 0), ChildCoins.NO);
  }

  private static void images() {
    ChildCoins x = Check.land("c7 2;p0;p0;p0;h0 0 2;d0 1 2;d0 1 4;");
    check.due("none kept", x.back(0), STATE);
    check.due("keep(-1)", x.keep(-1), BAD);
    check.due("keep(2)", x.keep(2), BAD);
    check.due("back(-1)", x.back(-1), BAD);
    check.due("back(2)", x.back(2), BAD);
    check.due("keep(0)", x.keep(0), 2);
    check.due("other isn't kept", x.back(1), STATE);
    x.passes(1, 2);
    x.pays(0);
    check.due("keep(1)", x.keep(1), 1);
    x.took(0);
    x.finds(2, 0);
    check.due("back(0)", x.back(0), 2);
    check.due("holds", x.holds(0, 0), 2);
    check.due("nobody found", x.holds(2, 0), 0);
    check.due("creditor", x.debt(1, 1), 1);
    check.due("took stays", x.count(4), 1);
    check.due("nothing to be undone", x.count(5), 0);
    check.due("back(1)", x.back(1), 1);
    check.due("creditor then", x.debt(1, 1), 2);
    check.due("open then", x.now(0), 2);
    check.due("an image stays", x.back(0), 2);
    x.pays(0);
    check.due("kept anew", x.keep(0), 1);
    check.due("and back", x.back(0), 1);
  }

  private static void imagesKeepWhatMayBeUndone() {
    ChildCoins x = Check.land("c7 2;p0;");
    for (int i = 0; i < 12; i++) x.finds(0, 0);
    x.undo();
    check.due("keep", x.keep(1), 0);
    for (int i = 0; i < 5; i++) x.loses(0, 0);
    check.due("back", x.back(1), 0);
    check.due("known", x.count(5), 9);
    for (int i = 8; i >= 0; i--) {
      check.due("undo", x.undo(), i);
      check.due("holds", x.holds(0, 0), i + 2);
    }
    check.due("no more", x.undo(), STATE);
    check.due("back again", x.back(1), 0);
    check.due("known again", x.count(5), 9);
  }

  private static void counts() {
    ChildCoins x = Check.land("c7 2;c7 2;p0;p0;p0;d0 1 2;s11;");
    x.took(1);
    x.finds(0, 0);
    x.type(1);
    int[] want = {2, 3, 1, 11, 1, 1, 1};
    for (int i = 0; i < want.length; i++) check.due("count(" + i + ")", x.count(i), want[i]);
    check.due("count(-1)", x.count(-1), BAD);
    check.due("count(7)", x.count(7), BAD);
  }
}
