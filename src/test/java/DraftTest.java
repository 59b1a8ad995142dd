/** Promises 1 to 6: a new object, point, clear, way, even, normal. */
final class DraftTest {
  private static final Check CHECK = new Check("DraftTest");

  private static void due(String call, long got, long want) {
    CHECK.due(call, got, want);
  }

  public static void main(String[] args) {
    newObject();
    point();
    pointOnFullDraft();
    clear();
    way();
    even();
    evenOverLifts();
    evenRefused();
    normal();
    normalRefused();
    normalAllZero();
    CHECK.finish();
  }

  private static void newObject() {
    StrokeBook x = new StrokeBook();
    for (int what = 0; what <= 4; what++) {
      due("1: count(" + what + ")", x.count(what), 0);
    }
    due("1: way()", x.way(), 0);
    due("1: told(0, 0)", x.told(0, 0), StrokeBook.BAD);
    due("1: undo()", x.undo(), StrokeBook.NONE);
    due("1: hidden()", x.hidden(), StrokeBook.NONE);
    due("1: line(0)", x.line(0), StrokeBook.BAD);
    for (int k = 0; k <= 3; k++) {
      due("1: lay(" + k + ", 0, 0)", x.lay(k, 0, 0), -11);
    }
    new StrokeBook().point(1, 1, false);
    due("1: another object's point is not this one's", x.count(0), 0);
  }

  private static void point() {
    StrokeBook x = new StrokeBook();
    due("2: corner", x.point(-100, 100, false), 1);
    due("2: other corner", x.point(100, -100, true), 2);
    due("2: x below", x.point(-101, 0, false), -1);
    due("2: x above", x.point(101, 0, false), -1);
    due("2: y below", x.point(0, -101, false), -1);
    due("2: y above", x.point(0, 101, false), -1);
    for (int v : Check.extremes()) {
      due("2: x " + v, x.point(v, 0, false), -1);
      due("2: y " + v, x.point(0, v, true), -1);
    }
    due("2: what is refused changes nothing", x.count(0), 2);
    due("2: the next one", x.point(0, 0, false), 3);
  }

  private static void pointOnFullDraft() {
    StrokeBook x = new StrokeBook();
    for (int n = 1; n <= 30; n++) {
      due("2: point " + n, x.point(n, 0, false), n);
    }
    due("2: the 31st", x.point(0, 0, false), -3);
    due("2: bad goes ahead of full", x.point(101, 0, false), -1);
    due("2: still 30", x.count(0), 30);
    due("2: way of 30", x.way(), 29);
  }

  private static void clear() {
    StrokeBook x = new StrokeBook();
    due("3: of none", x.clear(), 0);
    Check.draw(x, 0, 0, 5, 5, 9, 9);
    due("3: of three", x.clear(), 3);
    due("3: again", x.clear(), 0);
    due("3: count(0)", x.count(0), 0);
    due("3: the first again", x.point(1, 1, true), 1);
  }

  private static void way() {
    StrokeBook x = new StrokeBook();
    due("4: none", x.way(), 0);
    x.point(-10, 20, true);
    due("4: one", x.way(), 0);
    x.point(30, -5, false);
    due("4: both differences without signs", x.way(), 65);
    x.point(0, 0, true);
    due("4: lifted to", x.way(), 65);
    x.point(0, 0, false);
    due("4: the same point", x.way(), 65);
    x.point(-1, -2, false);
    due("4: on", x.way(), 68);
    x.clear();
    x.point(0, 0, true);
    due("4: after clear", x.way(), 0);
    x.point(1, 0, false);
    due("4: the first is never lifted to", x.way(), 1);
    Check.draw(x, zigzag());
    due("4: the longest", x.way(), 29 * 400);
  }

  private static int[] zigzag() {
    int[] xy = new int[60];
    for (int n = 0; n < 60; n++) {
      xy[n] = n / 2 % 2 == 0 ? -100 : 100;
    }
    return xy;
  }

  private static void dueEven(StrokeBook x, int what, int... want) {
    for (int i = 0; i < want.length; i++) {
      due("5: even(" + i + ", " + what + ")", x.even(i, what), want[i]);
    }
  }

  private static void even() {
    StrokeBook x = new StrokeBook();
    Check.draw(x, 0, 0, 7, 0);
    dueEven(x, 0, 0, 100, 200, 300, 400, 500, 600, 700);
    dueEven(x, 1, 0, 0, 0, 0, 0, 0, 0, 0);
    // Divided down also where the way goes to the left.
    Check.draw(x, 1, 3, 0, 3);
    dueEven(x, 0, 100, 85, 71, 57, 42, 28, 14, 0);
    dueEven(x, 1, 300, 300, 300, 300, 300, 300, 300, 300);
    // An even point right at a corner: the first two points that reach it.
    Check.draw(x, 0, 0, 3, 0, 3, 4);
    dueEven(x, 0, 0, 100, 200, 300, 300, 300, 300, 300);
    dueEven(x, 1, 0, 0, 0, 0, 100, 200, 300, 400);
    // Points at one place are passed over, at the beginning too.
    Check.draw(x, 5, 5, 5, 5, 5, 12, 5, 12);
    dueEven(x, 1, 500, 600, 700, 800, 900, 1000, 1100, 1200);
    Check.draw(x, zigzag());
    dueEven(x, 0, -10000, -7143, -4286, -1429, 1428, 4285, 7142, 10000);
  }

  private static void evenOverLifts() {
    StrokeBook x = new StrokeBook();
    // The first stroke is a point alone; the lift to the second draws nothing.
    x.point(-90, -90, false);
    x.point(0, 0, true);
    x.point(3, 0, false);
    x.point(10, 10, true);
    x.point(10, 6, false);
    x.point(50, 50, true);
    due("5: way", x.way(), 7);
    dueEven(x, 0, 0, 100, 200, 300, 1000, 1000, 1000, 1000);
    dueEven(x, 1, 0, 0, 0, 0, 900, 800, 700, 600);
  }

  private static void evenRefused() {
    StrokeBook x = new StrokeBook();
    due("5: empty", x.even(0, 0), 1000000);
    x.point(4, 4, false);
    due("5: one point", x.even(0, 0), 1000000);
    x.point(4, 4, false);
    due("5: way 0", x.even(0, 1), 1000000);
    x.point(9, 9, true);
    due("5: way 0, lifted", x.even(7, 1), 1000000);
    x.point(9, 10, false);
    due("5: now", x.even(7, 1), 1000);
    due("5: i -1", x.even(-1, 0), 1000000);
    due("5: i 8", x.even(8, 0), 1000000);
    due("5: what -1", x.even(0, -1), 1000000);
    due("5: what 2", x.even(0, 2), 1000000);
    for (int v : Check.extremes()) {
      due("5: i " + v, x.even(v, 1), 1000000);
      due("5: what " + v, x.even(3, v), 1000000);
    }
  }

  private static void dueNormal(StrokeBook x, int what, int... want) {
    for (int i = 0; i < want.length; i++) {
      due("6: normal(" + i + ", " + what + ")", x.normal(i, what), want[i]);
    }
  }

  private static void normal() {
    StrokeBook x = new StrokeBook();
    // Even x 0 to 700, middle 350: size 350 is the greatest of all.
    Check.draw(x, 0, 0, 7, 0);
    dueNormal(x, 0, -1000, -715, -429, -143, 142, 428, 714, 1000);
    dueNormal(x, 1, 0, 0, 0, 0, 0, 0, 0, 0);
    // x 0 to 300, middle 150; y 0 to 400, middle 200: one size (200) for both.
    Check.draw(x, 0, 0, 3, 0, 3, 4);
    dueNormal(x, 0, -750, -250, 250, 750, 750, 750, 750, 750);
    dueNormal(x, 1, -1000, -1000, -1000, -1000, -500, 0, 500, 1000);
    // The same anywhere and of any size.
    Check.draw(x, 40, 20, 100, 20, 100, 100);
    dueNormal(x, 0, -750, -250, 250, 750, 750, 750, 750, 750);
    // x 0 to -100 in 7: least and greatest -100 and 0 together, so -50; size 50.
    Check.draw(x, 0, 3, -1, 3);
    dueNormal(x, 0, 1000, 700, 420, 140, -160, -440, -720, -1000);
    // Even x 0 to -429 and back: the middle, -429 by 2, is divided down to -215; size 215.
    Check.draw(x, 0, 0, -5, 0, 0, 0);
    dueNormal(x, 0, 1000, 334, -331, -996, -996, -331, 334, 1000);
    dueNormal(x, 1, 0, 0, 0, 0, 0, 0, 0, 0);
    // Least -829, greatest 0 at the first point alone: the middle is -415, the greatest size its 415.
    Check.draw(x, 0, 0, -9, 0, -1, 0);
    due("6: even(4, 0)", x.even(4, 0), -829);
    due("6: normal(0, 0)", x.normal(0, 0), 1000);
    due("6: normal(4, 0)", x.normal(4, 0), -998);
    x.normal(0, 0);
    due("6: even is as before", x.even(0, 0), 0);
  }

  private static void normalRefused() {
    StrokeBook x = new StrokeBook();
    due("6: empty", x.normal(0, 0), 1000000);
    x.point(4, 4, false);
    x.point(5, 4, true);
    due("6: way 0", x.normal(0, 0), 1000000);
    x.point(5, 9, false);
    due("6: now", x.normal(7, 1), 1000);
    due("6: i -1", x.normal(-1, 0), 1000000);
    due("6: i 8", x.normal(8, 0), 1000000);
    due("6: what -1", x.normal(0, -1), 1000000);
    due("6: what 2", x.normal(0, 2), 1000000);
    for (int v : Check.extremes()) {
      due("6: i " + v, x.normal(v, 1), 1000000);
      due("6: what " + v, x.normal(3, v), 1000000);
    }
  }

  private static void normalAllZero() {
    StrokeBook x = new StrokeBook();
    // There and back seven times: every even point is where the way began.
    for (int n = 0; n <= 14; n++) {
      x.point(n % 2, 50, false);
    }
    due("6: way", x.way(), 14);
    for (int i = 0; i < 8; i++) {
      due("6: even(" + i + ", 0)", x.even(i, 0), 0);
      due("6: even(" + i + ", 1)", x.even(i, 1), 5000);
      due("6: all 0, x", x.normal(i, 0), 0);
      due("6: all 0, y", x.normal(i, 1), 0);
    }
    due("7: it can be taught", x.teach(3, 4), 0);
    due("14: nothing is apart", x.distance(0), 0);
  }
}
