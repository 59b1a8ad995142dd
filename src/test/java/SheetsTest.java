/** Promises 26 to 29: sheet, lay, scan, count. */
final class SheetsTest {
  private static final Check CHECK = new Check("SheetsTest");
  private static final int BYTES = 0, SHORTS = 1, INTS = 2;

  private static void due(String call, long got, long want) {
    CHECK.due(call, got, want);
  }

  public static void main(String[] args) {
    sheet();
    sheetRefused();
    sheetIsNew();
    lay();
    layLowestBits();
    scan();
    scanLifted();
    scanRefused();
    scanFaults();
    scanPointByPoint();
    scanFull();
    count();
    CHECK.finish();
  }

  /** Lays the cells v .. from cell 0 on. */
  private static void fill(StrokeBook x, int k, int... v) {
    for (int i = 0; i < v.length; i++) {
      due("27: cell " + i, x.lay(k, i, v[i]), 1);
    }
  }

  private static void sheet() {
    StrokeBook x = new StrokeBook();
    for (int k = 0; k <= 3; k++) {
      for (int lane = BYTES; lane <= INTS; lane++) {
        due("26: sheet " + k, x.sheet(k, lane, 60), 1);
        due("26: last cell", x.lay(k, 59, 1), 1);
        due("26: beyond it", x.lay(k, 60, 1), -12);
        due("26: its lane", x.scan(k, lane, 0, 0), 0);
        due("26: another lane", x.scan(k, (lane + 1) % 3, 0, 0), -13);
      }
    }
    due("26: no cells", x.sheet(2, SHORTS, 0), 1);
    due("26: it is one", x.lay(2, 0, 1), -12);
    due("26: other sheets stay", x.lay(1, 59, 1), 1);
    due("26: other sheets stay", x.lay(3, 59, 1), 1);
  }

  private static void sheetRefused() {
    StrokeBook x = new StrokeBook();
    due("26: k -1", x.sheet(-1, 0, 1), -1);
    due("26: k 4", x.sheet(4, 0, 1), -1);
    due("26: lane -1", x.sheet(0, -1, 1), -1);
    due("26: lane 3", x.sheet(0, 3, 1), -1);
    due("26: n 61", x.sheet(0, 0, 61), -1);
    due("26: n -1", x.sheet(0, 0, -1), -14);
    due("26: bad goes ahead of the fault", x.sheet(4, 0, -1), -1);
    due("26: bad goes ahead of the fault", x.sheet(0, 3, -1), -1);
    for (int v : Check.extremes()) {
      due("26: k " + v, x.sheet(v, 0, 1), -1);
      due("26: lane " + v, x.sheet(0, v, 1), -1);
      due("26: n " + v, x.sheet(0, 0, v), v < 0 ? -14 : -1);
    }
    due("26: still nothing", x.lay(0, 0, 1), -11);
    x.sheet(0, INTS, 2);
    x.lay(0, 0, 7);
    x.sheet(0, BYTES, -1);
    x.sheet(0, BYTES, 61);
    due("26: what is refused changes nothing", x.lay(0, 1, 7), 1);
    due("26: what is refused changes nothing", x.scan(0, INTS, 0, 0), 0);
  }

  private static void sheetIsNew() {
    StrokeBook x = new StrokeBook();
    x.sheet(1, INTS, 3);
    fill(x, 1, 50, 60, 1);
    x.sheet(0, INTS, 6);
    fill(x, 0, 1, 1, 1, 1, 1, 1);
    x.sheet(0, BYTES, 6);
    due("26: cells 0", x.scan(0, BYTES, 0, 2), 2);
    due("26: at one place, not lifted to", x.way(), 0);
    x.clear();
    due("26: the other sheet stays", x.scan(1, INTS, 0, 1), 1);
    x.point(0, 0, false);
    due("26: its cells stay", x.way(), 110);
    // Shorter and longer again: what lay beyond is gone.
    x.sheet(1, INTS, 1);
    x.sheet(1, INTS, 3);
    x.clear();
    x.scan(1, INTS, 0, 1);
    x.point(1, 1, false);
    due("26: all cells are 0 again", x.way(), 2);
  }

  private static void lay() {
    StrokeBook x = new StrokeBook();
    due("27: k -1", x.lay(-1, 0, 0), -1);
    due("27: k 4", x.lay(4, 0, 0), -1);
    due("27: nothing", x.lay(0, 0, 0), -11);
    due("27: null goes ahead of index", x.lay(0, -1, 0), -11);
    x.sheet(0, SHORTS, 3);
    due("27: first", x.lay(0, 0, 1), 1);
    due("27: last", x.lay(0, 2, 1), 1);
    due("27: i 3", x.lay(0, 3, 1), -12);
    due("27: i -1", x.lay(0, -1, 1), -12);
    for (int v : Check.extremes()) {
      due("27: k " + v, x.lay(v, 0, 0), -1);
      due("27: i " + v, x.lay(0, v, 0), -12);
      due("27: v " + v, x.lay(0, 0, v), 1);
    }
    due("27: of another sheet", x.lay(1, 0, 0), -11);
  }

  /** What cell 0 of a sheet of this lane holds after v, told by a point that is scanned. */
  private static void dueCell(int lane, int v, int want) {
    StrokeBook x = new StrokeBook();
    x.sheet(0, lane, 6);
    fill(x, 0, v, 0, 0, want > 0 ? want - 1 : want + 1, 0, 0);
    due("27: " + v + " in lane " + lane + " is scanned", x.scan(0, lane, 0, 2), 2);
    due("27: " + v + " in lane " + lane + " is " + want, x.way(), 1);
    int first = x.even(0, 0);
    due("27: " + v + " in lane " + lane + " is " + want, first, 100 * want);
  }

  private static void dueTooFar(int lane, int v) {
    StrokeBook x = new StrokeBook();
    x.sheet(0, lane, 3);
    fill(x, 0, v, 0, 0);
    due("27: " + v + " in lane " + lane + " is no point's", x.scan(0, lane, 0, 1), -21);
  }

  private static void layLowestBits() {
    dueCell(BYTES, 100, 100);
    dueCell(BYTES, -100, -100);
    dueCell(BYTES, 256, 0);
    dueCell(BYTES, 300, 44);
    dueCell(BYTES, 255, -1);
    dueCell(BYTES, 65536 - 100, -100);
    dueTooFar(BYTES, 127);
    dueTooFar(BYTES, 128);
    dueCell(SHORTS, 65536, 0);
    dueCell(SHORTS, 65535, -1);
    dueCell(SHORTS, -65536 + 99, 99);
    dueTooFar(SHORTS, 256);
    dueTooFar(SHORTS, 32768);
    dueCell(INTS, 77, 77);
    dueTooFar(INTS, 65536);
    dueTooFar(INTS, Integer.MIN_VALUE);
    // The third cell is held in its lane too: 256 is 0 there, so not lifted to.
    StrokeBook x = new StrokeBook();
    x.sheet(0, BYTES, 6);
    fill(x, 0, 1, 1, 0, 5, 5, 256);
    x.scan(0, BYTES, 0, 2);
    due("27: 256 of bytes is 0", x.way(), 8);
    x.clear();
    x.sheet(0, SHORTS, 6);
    fill(x, 0, 1, 1, 0, 5, 5, 256);
    x.scan(0, SHORTS, 0, 2);
    due("27: 256 of shorts is not", x.way(), 0);
  }

  private static void scan() {
    StrokeBook x = new StrokeBook();
    x.sheet(3, BYTES, 10);
    fill(x, 3, 9, -10, 20, 0, 30, 20, 0, 30, 50, 0);
    due("28: from cell 1 on", x.scan(3, BYTES, 1, 3), 3);
    due("28: way", x.way(), 70);
    due("28: x", x.even(0, 0), -1000);
    due("28: y", x.even(7, 1), 5000);
    due("28: none", x.scan(3, BYTES, 1, 0), 3);
    due("28: none, from anywhere", x.scan(3, BYTES, -7, 0), 3);
    due("28: none, from anywhere", x.scan(3, BYTES, Integer.MAX_VALUE, 0), 3);
    due("28: to those that are there", x.scan(3, BYTES, 4, 1), 4);
    due("28: twenty of sixty cells", sixty().scan(0, INTS, 0, 20), 20);
    due("28: the last cell is read", x.scan(3, BYTES, 7, 1), 5);
    due("28: the sheet stays", x.lay(3, 9, 0), 1);
  }

  private static StrokeBook sixty() {
    StrokeBook x = new StrokeBook();
    x.sheet(0, INTS, 60);
    return x;
  }

  private static void scanLifted() {
    StrokeBook x = new StrokeBook();
    x.sheet(0, INTS, 12);
    fill(x, 0, 0, 0, 1, 10, 0, 0, 20, 0, -1, 30, 0, 7);
    due("28: four", x.scan(0, INTS, 0, 4), 4);
    due("28: all but 0 is lifted, but for the first", x.way(), 10);
    due("28: again", x.scan(0, INTS, 0, 2), 6);
    due("28: the fifth is lifted to", x.way(), 20);
  }

  private static void scanRefused() {
    StrokeBook x = new StrokeBook();
    due("28: k -1", x.scan(-1, 0, 0, 0), -1);
    due("28: k 4", x.scan(4, 0, 0, 0), -1);
    due("28: lane -1", x.scan(0, -1, 0, 0), -1);
    due("28: lane 3", x.scan(0, 3, 0, 0), -1);
    due("28: n -1", x.scan(0, 0, 0, -1), -1);
    due("28: n 21", x.scan(0, 0, 0, 21), -1);
    for (int v : Check.extremes()) {
      due("28: k " + v, x.scan(v, 0, 0, 0), -1);
      due("28: lane " + v, x.scan(0, v, 0, 0), -1);
      due("28: n " + v, x.scan(0, 0, 0, v), -1);
    }
  }

  private static void scanFaults() {
    StrokeBook x = new StrokeBook();
    due("28: null", x.scan(0, BYTES, 0, 0), -11);
    x.sheet(0, SHORTS, 5);
    due("28: cast", x.scan(0, BYTES, 0, 0), -13);
    due("28: cast goes ahead of index", x.scan(0, INTS, -1, 1), -13);
    due("28: index", x.scan(0, SHORTS, -1, 1), -12);
    due("28: a cell is missing", x.scan(0, SHORTS, 3, 1), -12);
    due("28: all are there", x.scan(0, SHORTS, 2, 1), 1);
    due("28: the second has two cells", x.scan(0, SHORTS, 0, 2), -12);
    due("28: then none came", x.count(0), 1);
    for (int v : Check.extremes()) {
      due("28: f " + v, x.scan(0, SHORTS, v, 1), -12);
      due("28: f " + v, x.scan(0, SHORTS, v, 20), -12);
    }
    due("28: then none came", x.count(0), 1);
    x.sheet(0, SHORTS, 0);
    due("28: no cells", x.scan(0, SHORTS, 0, 1), -12);
  }

  private static void scanPointByPoint() {
    StrokeBook x = new StrokeBook();
    x.point(1, 1, false);
    x.sheet(0, INTS, 8);
    fill(x, 0, 0, 0, 0, 5, 101, 0, 0, 0);
    due("28: the second point's y is met ahead of the third's cells", x.scan(0, INTS, 0, 3), -21);
    due("28: then none came", x.count(0), 1);
    x.lay(0, 4, -100);
    due("28: now the third's cells", x.scan(0, INTS, 0, 3), -12);
    due("28: then none came", x.count(0), 1);
    x.lay(0, 6, 101);
    due("28: a point's cells go ahead of what it is", x.scan(0, INTS, 0, 3), -12);
    due("28: two", x.scan(0, INTS, 0, 2), 3);
    due("28: way", x.way(), 2 + 105);
  }

  private static void scanFull() {
    StrokeBook x = sixty();
    due("28: 20", x.scan(0, INTS, 0, 20), 20);
    due("28: the 31st is met", x.scan(0, INTS, 0, 11), -23);
    due("28: then none came", x.count(0), 20);
    due("28: 30", x.scan(0, INTS, 0, 10), 30);
    due("28: full", x.scan(0, INTS, 0, 1), -23);
    due("28: none", x.scan(0, INTS, 0, 0), 30);
    x.lay(0, 0, 101);
    due("28: bad goes ahead of full", x.scan(0, INTS, 0, 1), -21);
    due("28: index goes ahead of full", x.scan(0, INTS, 58, 1), -12);
    due("28: full goes ahead of a later point", x.scan(0, INTS, 57, 2), -23);
  }

  private static void count() {
    StrokeBook x = new StrokeBook();
    Check.draw(x, 0, 0, 1, 0);
    x.teach(1, 0);
    x.teach(2, 0);
    x.label(0, 3);
    x.mark();
    x.command(0, 0, 1, 1, 0, 0, 0);
    x.command(0, 0, 1, 2, 0, 0, 0);
    x.command(0, 0, 1, 3, 0, 0, 0);
    Check.draw(x, 0, 0, 1, 0, 2, 0, 3, 0, 4, 0);
    due("29: points", x.count(0), 5);
    due("29: taught", x.count(1), 2);
    due("29: commands", x.count(2), 3);
    due("29: labels of the line", x.count(3), 1);
    due("29: acts", x.count(4), 3);
    due("29: -1", x.count(-1), -1);
    due("29: 5", x.count(5), -1);
    for (int v : Check.extremes()) {
      due("29: " + v, x.count(v), -1);
    }
  }
}
