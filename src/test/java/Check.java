/** Counts the answers that are not as due, and ends the program if there were any. */
final class Check {
  private final String test;
  private int wrong = 0;
  private int asked = 0;

  Check(String test) { this.test = test; }

  void due(String call, long got, long want) {
    asked++;
    if (got == want) return;
    wrong++;
    System.out.println(test + ": " + call + " answered " + got + ", due is " + want);
  }

  /** Types a text and reads it. */
  static int tell(ChildCoins x, String text) {
    for (int i = 0; i < text.length(); i++) x.type(text.charAt(i));
    return x.land();
  }

  static ChildCoins land(String text) {
    ChildCoins x = new ChildCoins();
    int items = tell(x, text);
    if (items < 0) throw new IllegalStateException("the test's own text has a fault: " + text + " " + items);
    return x;
  }

  void end() {
    System.out.println(test + ": " + asked + " asked, " + wrong + " wrong");
    if (wrong != 0) System.exit(1);
  }
}
