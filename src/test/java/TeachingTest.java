/** Promises 7 to 12: teach, forget, undo, label, told, taught. */
final class TeachingTest {
  private static final Check CHECK = new Check("TeachingTest");

  private static void due(String call, long got, long want) {
    CHECK.due(call, got, want);
  }

  public static void main(String[] args) {
    teach();
    teachRefused();
    forget();
    undoTeach();
    undoForget();
    undoLabel();
    undoOfSixAtMost();
    undoLeavesRefusedOut();
    label();
    told();
    taught();
    CHECK.finish();
  }

  /** A book with marks of the labels 0 to many - 1, mark k drawn to (k + 1, 10). */
  private static StrokeBook bookOf(int many) {
    StrokeBook x = new StrokeBook();
    for (int k = 0; k < many; k++) {
      Check.draw(x, 0, 0, k + 1, 10);
      x.teach(k % 10, k % 5);
    }
    return x;
  }

  /** What normal(7, 0) is of mark k of such a book. */
  private static int lastX(int k) {
    StrokeBook x = new StrokeBook();
    Check.draw(x, 0, 0, k + 1, 10);
    return x.normal(7, 0);
  }

  private static void teach() {
    StrokeBook x = new StrokeBook();
    Check.draw(x, 0, 0, 3, 0, 3, 4);
    due("7: first", x.teach(0, 0), 0);
    due("7: the draft stays", x.count(0), 3);
    due("7: second, greatest numbers", x.teach(9, 4), 1);
    due("7: count(1)", x.count(1), 2);
    x.clear();
    x.point(9, 9, false);
    due("7: its own points", x.taught(0, 0, 0), -750);
    due("7: its own points", x.taught(1, 7, 1), 1000);
  }

  private static void teachRefused() {
    StrokeBook x = new StrokeBook();
    due("7: bad goes ahead of state", x.teach(-1, 0), -1);
    due("7: empty", x.teach(0, 0), -2);
    Check.draw(x, 4, 4, 4, 4);
    due("7: way 0", x.teach(0, 0), -2);
    Check.draw(x, 4, 4, 5, 5);
    due("7: label -1", x.teach(-1, 0), -1);
    due("7: label 10", x.teach(10, 0), -1);
    due("7: kind -1", x.teach(0, -1), -1);
    due("7: kind 5", x.teach(0, 5), -1);
    for (int v : Check.extremes()) {
      due("7: label " + v, x.teach(v, 0), -1);
      due("7: kind " + v, x.teach(0, v), -1);
    }
    due("7: none came", x.count(1), 0);
    due("7: none can be undone", x.count(4), 0);
    for (int k = 0; k < 16; k++) {
      due("7: number " + k, x.teach(1, 1), k);
    }
    due("7: the 17th", x.teach(1, 1), -3);
    due("7: bad goes ahead of full", x.teach(1, 5), -1);
    x.clear();
    due("7: state goes ahead of full", x.teach(1, 1), -2);
    due("7: still 16", x.count(1), 16);
  }

  private static void forget() {
    StrokeBook x = bookOf(4);
    due("8: -1", x.forget(-1), -1);
    due("8: 4", x.forget(4), -1);
    for (int v : Check.extremes()) {
      due("8: " + v, x.forget(v), -1);
    }
    due("8: none went", x.count(1), 4);
    due("8: mark 1", x.forget(1), 1);
    due("8: one less", x.count(1), 3);
    int[] left = {0, 2, 3};
    for (int k = 0; k < 3; k++) {
      due("8: label of " + k, x.told(k, 0), left[k]);
      due("8: kind of " + k, x.told(k, 1), left[k]);
      due("8: points of " + k, x.taught(k, 7, 0), lastX(left[k]));
    }
    due("8: there is no 3 now", x.told(3, 0), -1);
    due("8: the last", x.forget(2), 3);
    due("8: the first", x.forget(0), 0);
    due("8: the last one", x.forget(0), 2);
    due("8: none left", x.forget(0), -1);
  }

  private static void undoTeach() {
    StrokeBook x = bookOf(2);
    due("9: the second teach", x.undo(), 1);
    due("9: one mark", x.count(1), 1);
    due("9: the first stays", x.told(0, 0), 0);
    due("9: the draft stays", x.count(0), 2);
    due("9: the first teach", x.undo(), 0);
    due("9: none", x.count(1), 0);
    due("9: nothing more", x.undo(), -4);
  }

  private static void undoForget() {
    StrokeBook x = bookOf(4);
    x.forget(1);
    x.forget(0);
    due("9: two of six", x.count(4), 6);
    due("9: forget(0)", x.undo(), 5);
    due("9: forget(1)", x.undo(), 4);
    for (int k = 0; k < 4; k++) {
      due("9: label of " + k, x.told(k, 0), k);
      due("9: kind of " + k, x.told(k, 1), k);
      due("9: points of " + k, x.taught(k, 7, 0), lastX(k));
      due("9: points of " + k, x.taught(k, 0, 1), -1000);
    }
    // Of a full book too.
    StrokeBook full = bookOf(16);
    full.forget(15);
    full.forget(0);
    due("9: full again", full.undo(), 5);
    due("9: full again", full.undo(), 4);
    due("9: first of 16", full.taught(0, 7, 0), lastX(0));
    due("9: last of 16", full.taught(15, 7, 0), lastX(15));
    due("9: 16 again", full.teach(0, 0), -3);
  }

  private static void undoLabel() {
    StrokeBook x = bookOf(3);
    x.label(1, 7);
    x.label(1, 8);
    x.forget(0);
    due("9: forget", x.undo(), 5);
    due("9: as it was then", x.told(1, 0), 8);
    due("9: label", x.undo(), 4);
    due("9: the one before", x.told(1, 0), 7);
    due("9: label", x.undo(), 3);
    due("9: the first", x.told(1, 0), 1);
    due("9: its kind", x.told(1, 1), 1);
    due("9: as many as there were", x.count(1), 3);
    due("9: the one behind it", x.told(2, 0), 2);
  }

  private static void undoOfSixAtMost() {
    StrokeBook x = bookOf(8);
    due("9: six are kept", x.count(4), 6);
    for (int more = 5; more >= 0; more--) {
      due("9: undo", x.undo(), more);
    }
    due("9: the first two stand", x.count(1), 2);
    due("9: no more", x.undo(), -4);
    due("9: refused undo changes nothing", x.count(1), 2);
    // What was undone gives its place to new acts.
    x.label(0, 5);
    due("9: count", x.count(4), 1);
    x.undo();
    due("9: label back", x.told(0, 0), 0);
    for (int v = 1; v <= 9; v++) {
      x.label(0, v);
    }
    due("9: of nine", x.count(4), 6);
    due("9: one back", x.undo(), 5);
    x.label(0, 1);
    due("9: six again", x.count(4), 6);
    for (int more = 5; more >= 0; more--) {
      due("9: undo", x.undo(), more);
    }
    due("9: what the third act left", x.told(0, 0), 3);
  }

  private static void undoLeavesRefusedOut() {
    StrokeBook x = bookOf(1);
    x.teach(10, 0);
    x.forget(5);
    x.label(0, 10);
    x.clear();
    x.teach(1, 1);
    due("9: only the one", x.count(4), 1);
    due("9: it is undone", x.undo(), 0);
    due("9: none", x.count(1), 0);
  }

  private static void label() {
    StrokeBook x = bookOf(3);
    due("10: what it was", x.label(1, 9), 1);
    due("10: what it is", x.told(1, 0), 9);
    due("10: others", x.told(0, 0), 0);
    due("10: others", x.told(2, 0), 2);
    due("10: to 0", x.label(1, 0), 9);
    due("10: the same", x.label(1, 0), 0);
    due("10: acts", x.count(4), 6);
    due("10: k -1", x.label(-1, 0), -1);
    due("10: k 3", x.label(3, 0), -1);
    due("10: v -1", x.label(0, -1), -1);
    due("10: v 10", x.label(0, 10), -1);
    for (int v : Check.extremes()) {
      due("10: k " + v, x.label(v, 0), -1);
      due("10: v " + v, x.label(0, v), -1);
    }
    due("10: as it was", x.told(0, 0), 0);
  }

  private static void told() {
    StrokeBook x = bookOf(5);
    for (int k = 0; k < 5; k++) {
      due("11: label", x.told(k, 0), k);
      due("11: kind", x.told(k, 1), k);
    }
    x.label(2, 6);
    due("11: label alone", x.told(2, 0), 6);
    due("11: kind alone", x.told(2, 1), 2);
    due("11: k -1", x.told(-1, 0), -1);
    due("11: k 5", x.told(5, 0), -1);
    due("11: what -1", x.told(0, -1), -1);
    due("11: what 2", x.told(0, 2), -1);
    for (int v : Check.extremes()) {
      due("11: k " + v, x.told(v, 0), -1);
      due("11: what " + v, x.told(0, v), -1);
    }
  }

  private static void taught() {
    StrokeBook x = new StrokeBook();
    Check.draw(x, 0, 0, 7, 0);
    x.teach(1, 0);
    Check.draw(x, 0, 0, 3, 0, 3, 4);
    x.teach(2, 1);
    int[] first = {-1000, -715, -429, -143, 142, 428, 714, 1000};
    int[] second = {-1000, -1000, -1000, -1000, -500, 0, 500, 1000};
    for (int i = 0; i < 8; i++) {
      due("12: x", x.taught(0, i, 0), first[i]);
      due("12: y", x.taught(0, i, 1), 0);
      due("12: y of the second", x.taught(1, i, 1), second[i]);
    }
    due("12: k -1", x.taught(-1, 0, 0), 1000000);
    due("12: k 2", x.taught(2, 0, 0), 1000000);
    due("12: i -1", x.taught(0, -1, 0), 1000000);
    due("12: i 8", x.taught(0, 8, 0), 1000000);
    due("12: what -1", x.taught(0, 0, -1), 1000000);
    due("12: what 2", x.taught(0, 0, 2), 1000000);
    for (int v : Check.extremes()) {
      due("12: k " + v, x.taught(v, 0, 0), 1000000);
      due("12: i " + v, x.taught(0, v, 0), 1000000);
      due("12: what " + v, x.taught(0, 0, v), 1000000);
    }
  }
}
