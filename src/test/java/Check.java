/** Counts the answers that are not as due, and tells them. */
final class Check {
  private final String name;
  private int asked = 0;
  private int wrong = 0;

  Check(String name) {
    this.name = name;
  }

  void due(String call, long got, long want) {
    asked++;
    if (got != want) {
      wrong++;
      System.out.println(name + ": " + call + " answered " + got + ", due is " + want);
    }
  }

  void holds(String what, boolean does) {
    asked++;
    if (!does) {
      wrong++;
      System.out.println(name + ": does not hold: " + what);
    }
  }

  int wrong() {
    return wrong;
  }

  /** Ends the program: with exit code 1 if an answer was wrong, or if none was asked for. */
  void finish() {
    System.out.println(name + ": " + asked + " answers, " + wrong + " wrong");
    System.exit(wrong == 0 && asked > 0 ? 0 : 1);
  }

  /** Draws the points x, y, x, y, .. of one stroke, after the draft has been emptied. */
  static void draw(StrokeBook book, int... xy) {
    book.clear();
    for (int n = 0; n + 1 < xy.length; n += 2) {
      book.point(xy[n], xy[n + 1], false);
    }
  }

  /** Numbers beyond all that the document tells. */
  static int[] extremes() {
    return new int[] {Integer.MIN_VALUE, Integer.MIN_VALUE + 1, Integer.MAX_VALUE - 1, Integer.MAX_VALUE};
  }
}
