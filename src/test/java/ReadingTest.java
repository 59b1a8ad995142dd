/** Promises 13 to 19: ends, distance, nearest, read, mark, confused, between. */
final class ReadingTest {
  private static final Check CHECK = new Check("ReadingTest");
  private static final int AS_IT_IS = 0, TURNED = 1, EITHER = 2, CLOUD = 3, TURNED_CLOUD = 4;

  private static final int[] RIGHT = {0, 0, 7, 0};
  private static final int[] LEFT = {7, 0, 0, 0};
  private static final int[] UP = {0, 0, 0, 7};
  private static final int[] CORNER = {0, 0, 3, 0, 3, 4};
  private static final int[] MIRRORED = {0, 0, 0, 3, 4, 3};

  private static void due(String call, long got, long want) {
    CHECK.due(call, got, want);
  }

  public static void main(String[] args) {
    ends();
    distanceByKind();
    distanceOfTurns();
    distanceOfBothEnds();
    distanceOfClouds();
    distanceRefused();
    nearest();
    read();
    readAtFirst();
    readWithMargin();
    readRefused();
    mark();
    markRefused();
    confused();
    confusedRefused();
    between();
    CHECK.finish();
  }

  private static void teach(StrokeBook x, int label, int kind, int... xy) {
    Check.draw(x, xy);
    x.teach(label, kind);
  }

  private static void ends() {
    StrokeBook x = new StrokeBook();
    teach(x, 1, AS_IT_IS, RIGHT);
    Check.draw(x, LEFT);
    due("13: least", x.ends(0, 0), 1);
    due("13: it holds", x.read(), -5);
    due("13: greatest", x.ends(100000, 100000), 1);
    due("13: it holds", x.read(), 1);
    due("13: end -1", x.ends(-1, 0), -1);
    due("13: end above", x.ends(100001, 0), -1);
    due("13: margin -1", x.ends(0, -1), -1);
    due("13: margin above", x.ends(0, 100001), -1);
    for (int v : Check.extremes()) {
      due("13: end " + v, x.ends(v, 0), -1);
      due("13: margin " + v, x.ends(0, v), -1);
    }
    due("13: what is refused changes nothing", x.read(), 1);
  }

  private static void distanceByKind() {
    // By kind: the same, drawn from the other end, turned.
    int[][] want = {{0, 9142, 9142}, {0, 6, 0}, {0, 0, 9142}, {0, 0, 9142}, {0, 0, 0}};
    for (int kind = AS_IT_IS; kind <= TURNED_CLOUD; kind++) {
      StrokeBook x = new StrokeBook();
      teach(x, 1, kind, RIGHT);
      due("14: the same, kind " + kind, x.distance(0), want[kind][0]);
      Check.draw(x, LEFT);
      due("14: from the other end, kind " + kind, x.distance(0), want[kind][1]);
      Check.draw(x, UP);
      due("14: turned, kind " + kind, x.distance(0), want[kind][2]);
      due("14: the draft stays", x.count(0), 2);
    }
  }

  private static void distanceOfTurns() {
    StrokeBook x = new StrokeBook();
    teach(x, 1, AS_IT_IS, CORNER);
    teach(x, 1, TURNED, CORNER);
    // (x, y) to (-y, x): by one, two and three quarters; the points are divided down after it.
    Check.draw(x, 0, 0, 0, 3, -4, 3);
    due("14: one quarter", x.distance(1), 0);
    Check.draw(x, 0, 0, -3, 0, -3, -4);
    due("14: two quarters", x.distance(1), 0);
    Check.draw(x, 0, 0, 0, -3, 4, -3);
    due("14: three quarters", x.distance(1), 0);
    // Mirrored it is no turned one: the nearest turn is 10000 apart.
    Check.draw(x, MIRRORED);
    due("14: mirrored", x.distance(0), 13000);
    due("14: mirrored and turned", x.distance(1), 10000);
  }

  private static void distanceOfBothEnds() {
    StrokeBook x = new StrokeBook();
    teach(x, 1, EITHER, CORNER);
    teach(x, 1, TURNED, CORNER);
    Check.draw(x, 3, 4, 3, 0, 0, 0);
    due("14: from the other end", x.distance(0), 0);
    CHECK.holds("14: a turned one has one end alone", x.distance(1) > 0);
    Check.draw(x, 0, 0, 0, 3, -4, 3);
    CHECK.holds("14: one of either end is not turned", x.distance(0) > 0);
  }

  private static void distanceOfClouds() {
    StrokeBook x = new StrokeBook();
    drawTwoStrokes(x, 30, 0, 0, 40);
    x.teach(1, CLOUD);
    x.teach(2, TURNED_CLOUD);
    x.teach(3, AS_IT_IS);
    x.teach(4, EITHER);
    // The second stroke first: the same eight points in other places of the row.
    drawTwoStrokes(x, 0, 40, 30, 0);
    due("14: cloud", x.distance(0), 0);
    due("14: turned cloud", x.distance(1), 0);
    CHECK.holds("14: not in this order", x.distance(2) > 0);
    CHECK.holds("14: not from the other end", x.distance(3) > 0);
    drawTwoStrokes(x, -40, 0, 0, 30);
    CHECK.holds("14: a cloud is not turned", x.distance(0) > 0);
    due("14: a turned cloud is", x.distance(1), 0);
  }

  /** Two strokes from (0, 0); both are whole sevenths of the way, so either order has the same even points. */
  private static void drawTwoStrokes(StrokeBook x, int x1, int y1, int x2, int y2) {
    Check.draw(x, 0, 0, x1, y1);
    x.point(0, 0, true);
    x.point(x2, y2, false);
  }

  private static void distanceRefused() {
    StrokeBook x = new StrokeBook();
    due("14: bad goes ahead of state", x.distance(0), -1);
    teach(x, 1, AS_IT_IS, RIGHT);
    due("14: k -1", x.distance(-1), -1);
    due("14: k 1", x.distance(1), -1);
    for (int v : Check.extremes()) {
      due("14: k " + v, x.distance(v), -1);
    }
    x.clear();
    due("14: empty", x.distance(0), -2);
    x.point(3, 3, false);
    due("14: one point", x.distance(0), -2);
    x.point(5, 5, true);
    due("14: way 0", x.distance(0), -2);
    due("14: bad", x.distance(1), -1);
    x.point(5, 6, false);
    CHECK.holds("14: now", x.distance(0) >= 0);
  }

  private static void nearest() {
    StrokeBook x = new StrokeBook();
    due("15: state goes ahead of none", x.nearest(), -2);
    Check.draw(x, RIGHT);
    due("15: nothing taught", x.nearest(), -4);
    teach(x, 1, AS_IT_IS, UP);
    teach(x, 2, AS_IT_IS, RIGHT);
    teach(x, 3, TURNED, RIGHT);
    due("15: the least number of several", x.nearest(), 1);
    Check.draw(x, UP);
    due("15: the first", x.nearest(), 0);
    Check.draw(x, LEFT);
    due("15: 9142, 9142, 6", x.nearest(), 2);
    x.ends(0, 0);
    due("15: beyond the end too", x.nearest(), 2);
    Check.draw(x, 4, 4, 4, 4);
    due("15: way 0", x.nearest(), -2);
    x.clear();
    due("15: empty", x.nearest(), -2);
  }

  private static void read() {
    StrokeBook x = new StrokeBook();
    teach(x, 4, AS_IT_IS, RIGHT);
    teach(x, 7, AS_IT_IS, UP);
    due("16: the second", x.read(), 7);
    Check.draw(x, RIGHT);
    due("16: the first", x.read(), 4);
    x.label(0, 0);
    due("16: label 0", x.read(), 0);
    Check.draw(x, LEFT);
    due("16: two alike: the least number", x.read(), 0);
    due("16: the end is within", x.ends(9142, 0), 1);
    due("16: at most", x.read(), 0);
    x.ends(9141, 0);
    due("16: beyond", x.read(), -5);
    due("16: the draft stays", x.count(0), 2);
    due("16: nothing is on the line", x.count(3), 0);
  }

  private static void drawFar(StrokeBook x, boolean lowFirst, int dx) {
    int low = lowFirst ? -100 : 100;
    int in = lowFirst ? 1 : -1;
    x.clear();
    x.point(low, low, false);
    x.point(low + in, low, false);
    x.point(-low + dx, -low, true);
    x.point(-low + dx - in, -low, false);
  }

  /** Two strokes of two points each. */
  private static void drawPairs(StrokeBook x, int... xy) {
    x.clear();
    for (int n = 0; n < 8; n += 2) {
      x.point(xy[n], xy[n + 1], n == 4);
    }
  }

  private static void readAtFirst() {
    StrokeBook y = new StrokeBook();
    drawPairs(y, 1, 4, -9, 8, -6, 2, -10, -4);
    y.teach(6, AS_IT_IS);
    drawPairs(y, -8, 2, 4, -2, 5, 4, 2, 10);
    due("14: just the end at first", y.distance(0), 20000);
    due("16: at most", y.read(), 6);
    drawPairs(y, 2, 7, 4, 6, 7, 2, 3, 3);
    y.teach(6, AS_IT_IS);
    y.forget(0);
    drawPairs(y, 9, -6, -3, 6, 7, 10, 10, 5);
    due("14: one more", y.distance(0), 20001);
    due("16: beyond", y.read(), -5);
    StrokeBook x = new StrokeBook();
    drawFar(x, true, 0);
    x.teach(3, AS_IT_IS);
    due("16: end at first", x.read(), 3);
    drawFar(x, false, 0);
    CHECK.holds("14: far", x.distance(0) > 20000);
    due("16: beyond the first end", x.read(), -5);
    due("15: but nearest", x.nearest(), 0);
    x.ends(100000, 0);
    due("16: not beyond this", x.read(), 3);
  }

  private static void readWithMargin() {
    StrokeBook x = new StrokeBook();
    teach(x, 1, AS_IT_IS, RIGHT);
    x.ends(20000, 100000);
    due("16: no other label", x.read(), 1);
    teach(x, 1, AS_IT_IS, RIGHT);
    due("16: the same label is no other", x.read(), 1);
    teach(x, 2, AS_IT_IS, UP);
    Check.draw(x, RIGHT);
    x.ends(20000, 9142);
    due("16: margin more at least", x.read(), 1);
    x.ends(20000, 9143);
    due("16: less than the margin", x.read(), -5);
    Check.draw(x, LEFT);
    x.ends(20000, 0);
    due("16: alike, margin 0", x.read(), 1);
    x.ends(20000, 1);
    due("16: alike, margin 1", x.read(), -5);
    // The other label may stand ahead of the nearest one.
    Check.draw(x, UP);
    x.ends(0, 9142);
    due("16: the other way", x.read(), 2);
    x.ends(0, 9143);
    due("16: the other way", x.read(), -5);
    x.label(2, 1);
    due("16: no other label now", x.read(), 1);
    StrokeBook y = new StrokeBook();
    teach(y, 2, AS_IT_IS, UP);
    teach(y, 1, AS_IT_IS, RIGHT);
    y.ends(20000, 9143);
    due("16: the first one alone has another label", y.read(), -5);
  }

  private static void readRefused() {
    StrokeBook x = new StrokeBook();
    due("16: state goes ahead of none", x.read(), -2);
    Check.draw(x, RIGHT);
    due("16: none", x.read(), -4);
    x.teach(1, AS_IT_IS);
    x.ends(0, 0);
    x.clear();
    due("16: state goes ahead of rejected", x.read(), -2);
    Check.draw(x, UP);
    due("16: rejected", x.read(), -5);
    x.forget(0);
    due("16: none again", x.read(), -4);
  }

  private static void mark() {
    StrokeBook x = new StrokeBook();
    teach(x, 6, AS_IT_IS, RIGHT);
    due("17: label", x.mark(), 6);
    due("17: the draft is emptied", x.count(0), 0);
    due("17: on the line", x.count(3), 1);
    due("17: on the line", x.line(0), 6);
    teach(x, 0, AS_IT_IS, UP);
    due("17: label 0", x.mark(), 0);
    due("17: after it", x.line(1), 0);
    due("17: the first stays", x.line(0), 6);
    due("17: it can't be undone", x.count(4), 2);
  }

  private static void markRefused() {
    StrokeBook x = new StrokeBook();
    due("17: state", x.mark(), -2);
    Check.draw(x, RIGHT);
    due("17: none", x.mark(), -4);
    x.teach(1, AS_IT_IS);
    x.ends(0, 0);
    Check.draw(x, UP);
    due("17: rejected", x.mark(), -5);
    due("17: the draft stays", x.count(0), 2);
    due("17: the line stays", x.count(3), 0);
    for (int n = 0; n < 40; n++) {
      Check.draw(x, RIGHT);
      due("17: mark " + n, x.mark(), 1);
    }
    Check.draw(x, RIGHT);
    due("17: full", x.mark(), -3);
    due("17: the draft stays", x.count(0), 2);
    due("17: 40", x.count(3), 40);
    due("17: read all the same", x.read(), 1);
    x.wipe();
    due("17: now", x.mark(), 1);
  }

  private static void confused() {
    StrokeBook x = new StrokeBook();
    teach(x, 1, AS_IT_IS, RIGHT);
    teach(x, 2, TURNED, UP);
    // between(0, 1) is 0, between(1, 0) is 9142: one way is enough, for both labels.
    due("18: one way", x.confused(1, 0), 1);
    due("18: the other way", x.confused(2, 0), 1);
    due("18: no such label", x.confused(3, 100000), 0);
    teach(x, 1, AS_IT_IS, LEFT);
    // between(2, 1) is 0 too: a turned one.
    due("18: both of label 1", x.confused(1, 6), 2);
    teach(x, 1, AS_IT_IS, CORNER);
    CHECK.holds("19: the corner is another", x.between(3, 1) > 6);
    due("18: not the corner", x.confused(1, 6), 2);
    due("18: all are within this", x.confused(1, 100000), 3);
    due("18: counted once each", x.confused(2, 100000), 1);
    StrokeBook alike = new StrokeBook();
    teach(alike, 5, AS_IT_IS, RIGHT);
    teach(alike, 5, AS_IT_IS, RIGHT);
    due("18: the same label is no other", alike.confused(5, 100000), 0);
    teach(alike, 6, AS_IT_IS, UP);
    due("18: at most", alike.confused(5, 9142), 2);
    due("18: less", alike.confused(5, 9141), 0);
    for (int k = 3; k < 16; k++) {
      alike.teach(k % 2 + 5, AS_IT_IS);
    }
    due("18: of sixteen", alike.confused(6, 100000), 8);
    alike.forget(15);
    due("18: a forgotten one is none", alike.confused(6, 100000), 7);
    alike.forget(14);
    due("18: a forgotten one is none", alike.confused(6, 100000), 7);
    alike.forget(13);
    due("18: a forgotten one is none", alike.confused(6, 100000), 6);
  }

  private static void confusedRefused() {
    StrokeBook x = new StrokeBook();
    due("18: nothing taught", x.confused(0, 0), 0);
    due("18: greatest", x.confused(9, 100000), 0);
    due("18: label -1", x.confused(-1, 0), -1);
    due("18: label 10", x.confused(10, 0), -1);
    due("18: d -1", x.confused(0, -1), -1);
    due("18: d above", x.confused(0, 100001), -1);
    for (int v : Check.extremes()) {
      due("18: label " + v, x.confused(v, 0), -1);
      due("18: d " + v, x.confused(0, v), -1);
    }
  }

  private static void between() {
    StrokeBook x = new StrokeBook();
    teach(x, 1, AS_IT_IS, CORNER);
    teach(x, 2, TURNED, MIRRORED);
    teach(x, 3, EITHER, LEFT);
    teach(x, 3, AS_IT_IS, RIGHT);
    x.clear();
    due("19: by the second's kind", x.between(1, 0), 13000);
    due("19: by the second's kind", x.between(0, 1), 10000);
    due("19: of itself", x.between(0, 0), 0);
    due("19: of itself", x.between(2, 2), 0);
    due("19: either end", x.between(3, 2), 0);
    due("19: as it is", x.between(2, 3), 9142);
    due("19: a -1", x.between(-1, 0), -1);
    due("19: a 4", x.between(4, 0), -1);
    due("19: b -1", x.between(0, -1), -1);
    due("19: b 4", x.between(0, 4), -1);
    for (int v : Check.extremes()) {
      due("19: a " + v, x.between(v, 0), -1);
      due("19: b " + v, x.between(0, v), -1);
    }
  }
}
