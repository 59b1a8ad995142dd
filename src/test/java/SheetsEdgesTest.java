/** The boundary cases of promises 26 to 29 and of what 'Terms' say of SHEETS: each sentence has its own test. */
final class SheetsEdgesTest {
  private static final Check CHECK = new Check("SheetsEdgesTest");
  private static final int BYTES = 0, SHORTS = 1, INTS = 2;

  private static Told sentence(String words) {
    return new Told(CHECK, words);
  }

  public static void main(String[] args) {
    sheet();
    sheetRefused();
    sheetIsNew();
    lay();
    layRefused();
    lowestBitsOfBytes();
    lowestBitsOfShorts();
    lowestBitsOfInts();
    scan();
    scanRefused();
    scanNullAndCast();
    scanIndex();
    scanWrapsRoundNowhere();
    scanWhatPointRefuses();
    scanTheFirstMet();
    count();
    CHECK.finish();
  }

  /** A SHEET 0 with these cells. */
  private static Told sheetOf(Told x, int lane, int... cells) {
    x.due("sheet(0, " + lane + ", " + cells.length + ")", 1);
    for (int i = 0; i < cells.length; i++) {
      x.due("lay(0, " + i + ", " + cells[i] + ")", 1);
    }
    return x;
  }

  // ---- 26

  private static void sheet() {
    for (int k = 0; k <= 3; k++) {
      for (int lane = BYTES; lane <= INTS; lane++) {
        sentence("SHEETS 0 to 3, of lanes 0 to 2, with 0 to 60 CELLS: 60").due("sheet(" + k + ", " + lane + ", 60)", 1)
            .due("lay(" + k + ", 59, 1)", 1).refused(-12, "lay(" + k + ", 60, 1)")
            .due("scan(" + k + ", " + lane + ", 0, 20)", 20);
        sentence("SHEETS 0 to 3, of lanes 0 to 2, with 0 to 60 CELLS: 0").due("sheet(" + k + ", " + lane + ", 0)", 1)
            .refused(-12, "lay(" + k + ", 0, 1)", "scan(" + k + ", " + lane + ", 0, 1)")
            .due("scan(" + k + ", " + lane + ", 0, 0)", 0);
      }
    }
    sentence("26: A SHEET alone").does("sheet(1, 2, 3)", "lay(1, 0, 50)").due("sheet(0, 1, 9)", 1)
        .due("sheet(2, 0, 1)", 1).due("scan(1, 2, 0, 1)", 1).due("point(0, 0, false)", 2).due("way()", 50)
        .refused(-11, "lay(3, 0, 0)").refused(-12, "lay(1, 3, 0)");
  }

  private static void sheetRefused() {
    sentence("26: BAD: k").refused(-1, "sheet(-1, 0, 1)", "sheet(4, 0, 1)").refusedFarBeyond(-1, "sheet(#, 0, 1)");
    sheetOf(sentence("26: BAD: lane"), SHORTS, 5, 6, 7).refused(-1, "sheet(0, -1, 1)", "sheet(0, 3, 1)")
        .refusedFarBeyond(-1, "sheet(0, #, 1)").due("scan(0, 1, 0, 1)", 1);
    sheetOf(sentence("26: BAD: also n above 60"), SHORTS, 5, 6, 7).refused(-1, "sheet(0, 0, 61)",
        "sheet(0, 0, " + Integer.MAX_VALUE + ")").due("scan(0, 1, 0, 1)", 1).refused(-12, "lay(0, 3, 1)");
    sheetOf(sentence("26: -10 - 4: SIZE (below 0)"), SHORTS, 5, 6, 7).refused(-14, "sheet(0, 0, -1)",
        "sheet(0, 0, " + Integer.MIN_VALUE + ")").due("scan(0, 1, 0, 1)", 1);
    sentence("26: -10 - 4: it stays nothing").refused(-14, "sheet(2, 1, -1)").refused(-11, "lay(2, 0, 0)");
    sentence("26: BAD; -10 - 4: the first that fits").refused(-1, "sheet(4, 0, -1)", "sheet(-1, 0, -1)",
        "sheet(0, 3, -1)", "sheet(0, -1, -1)");
  }

  private static void sheetIsNew() {
    sheetOf(sentence("26: a new row of CELLS 0: over an older one"), INTS, 50, 60, 0, 7, 7, 7)
        .due("sheet(0, 2, 6)", 1).due("scan(0, 2, 0, 2)", 2).due("way()", 0).does("point(0, 1, false)").due("way()", 1);
    sheetOf(sentence("26: a new row of CELLS 0: shorter, then longer again"), INTS, 1, 2, 0, 50, 60, 0)
        .does("sheet(0, 2, 1)").refused(-12, "lay(0, 1, 0)").does("sheet(0, 2, 6)").due("scan(0, 2, 3, 1)", 1)
        .does("point(0, 1, false)").due("way()", 1);
    sheetOf(sentence("26: a new row of another lane"), INTS, 50, 60, 0).due("sheet(0, 0, 3)", 1)
        .refused(-13, "scan(0, 2, 0, 1)").due("scan(0, 0, 0, 1)", 1);
  }

  // ---- 27

  private static void lay() {
    sentence("27: CELL i becomes v").does("sheet(0, 2, 6)").due("lay(0, 0, 10)", 1).due("lay(0, 0, 20)", 1)
        .due("lay(0, 3, 25)", 1).due("scan(0, 2, 0, 2)", 2).due("way()", 5).due("even(0, 0)", 2000);
  }

  private static void layRefused() {
    sentence("27: BAD: k").does("sheet(0, 2, 6)").refused(-1, "lay(-1, 0, 1)", "lay(4, 0, 1)")
        .refusedFarBeyond(-1, "lay(#, 0, 1)");
    sentence("27: -10 less the FAULT: NULL").does("sheet(0, 2, 6)").refused(-11, "lay(1, 0, 1)", "lay(3, 5, 1)");
    sheetOf(sentence("27: -10 less the FAULT: INDEX"), INTS, 1, 2, 3).refused(-12, "lay(0, -1, 9)", "lay(0, 3, 9)",
        "lay(0, 60, 9)").refusedFarBeyond(-12, "lay(0, #, 9)").due("lay(0, 2, 0)", 1);
    sentence("27: NULL, INDEX: the first that fits").refused(-11, "lay(0, -1, 1)", "lay(0, 60, 1)");
    sentence("27: BAD, NULL, INDEX: the first that fits").refused(-1, "lay(4, -1, 1)");
  }

  /** Cell 0 holds x 'want' after v is laid: the point is 1 from (want + 1, 0), and begins at it. */
  private static void dueCell(String words, int lane, int v, int want) {
    sheetOf(sentence(words + ": " + v), lane, v, 0, 0).due("scan(0, " + lane + ", 0, 1)", 1)
        .does("point(" + (want < 0 ? want + 1 : want - 1) + ", 0, false)").due("way()", 1)
        .due("even(0, 0)", 100 * want);
  }

  /** Cell 0 holds no point's x after v is laid. */
  private static void dueBeyond(String words, int lane, int v) {
    sheetOf(sentence(words + ": " + v), lane, v, 0, 0).refused(-21, "scan(0, " + lane + ", 0, 1)");
  }

  private static void lowestBitsOfBytes() {
    String words = "27: (its lowest bits): of BYTES";
    dueCell(words, BYTES, 100, 100);
    dueCell(words, BYTES, -100, -100);
    dueCell(words, BYTES, 156, -100);
    dueCell(words, BYTES, -156, 100);
    dueCell(words, BYTES, 255, -1);
    dueCell(words, BYTES, 256, 0);
    dueCell(words, BYTES, Integer.MIN_VALUE, 0);
    dueCell(words, BYTES, Integer.MAX_VALUE, -1);
    dueBeyond(words, BYTES, 127);
    dueBeyond(words, BYTES, 128);
    dueBeyond(words, BYTES, -129);
    sheetOf(sentence("27: (its lowest bits): of BYTES: 256 is 0: not LIFTED to"), BYTES, 0, 0, 0, 5, 0, 256)
        .due("scan(0, 0, 0, 2)", 2).due("way()", 5);
  }

  private static void lowestBitsOfShorts() {
    String words = "27: (its lowest bits): of SHORTS";
    dueCell(words, SHORTS, 100, 100);
    dueCell(words, SHORTS, 65535, -1);
    dueCell(words, SHORTS, 65536, 0);
    dueCell(words, SHORTS, 65536 - 100, -100);
    dueCell(words, SHORTS, -65536 + 100, 100);
    dueCell(words, SHORTS, Integer.MIN_VALUE, 0);
    dueCell(words, SHORTS, Integer.MAX_VALUE, -1);
    dueBeyond(words, SHORTS, 256);
    dueBeyond(words, SHORTS, 32767);
    dueBeyond(words, SHORTS, 32768);
    sheetOf(sentence("27: (its lowest bits): of SHORTS: 256 is not 0: LIFTED to"), SHORTS, 0, 0, 0, 5, 0, 256)
        .due("scan(0, 1, 0, 2)", 2).due("way()", 0);
  }

  private static void lowestBitsOfInts() {
    String words = "27: (its lowest bits): of INTS all";
    dueCell(words, INTS, -100, -100);
    dueBeyond(words, INTS, 65536);
    dueBeyond(words, INTS, Integer.MIN_VALUE);
    dueBeyond(words, INTS, Integer.MAX_VALUE);
    sheetOf(sentence(words + ": the highest bit alone is not 0: LIFTED to"), INTS, 0, 0, 0, 5, 0, Integer.MIN_VALUE)
        .due("scan(0, 2, 0, 2)", 2).due("way()", 0);
  }

  // ---- 28

  private static void scan() {
    sheetOf(sentence("28: of each x, y, and whether LIFTED to (0: not)"), INTS, 0, 0, 0, 0, 9, 0, 5, 9, 1, 5, 5, 0)
        .due("scan(0, 2, 0, 4)", 4).due("way()", 13).due("even(7, 0)", 500).due("even(7, 1)", 500);
    sheetOf(sentence("28: LIFTED to: any number but 0"), INTS, 0, 0, 0, 9, 0, -1, 5, 0, 7).due("scan(0, 2, 0, 3)", 3)
        .due("way()", 0);
    sheetOf(sentence("28: the first is never LIFTED to"), INTS, 0, 0, 1, 9, 0, 0).due("scan(0, 2, 0, 2)", 2)
        .due("way()", 9).due("scan(0, 2, 0, 1)", 3).due("way()", 9);
    sheetOf(sentence("28: from CELL f on"), SHORTS, 99, 99, 1, 2, 0, 4, 2, 0).due("scan(0, 1, 2, 2)", 2)
        .due("way()", 3).due("even(0, 0)", 100).due("even(0, 1)", 200).due("even(7, 0)", 400);
    sentence("28: n (0 to 20): 20").does("sheet(0, 0, 60)").due("scan(0, 0, 0, 20)", 20).due("count(0)", 20);
    sentence("28: n (0 to 20): 0").does("sheet(0, 0, 60)").due("scan(0, 0, 0, 0)", 0).does("point(1, 1, false)")
        .due("scan(0, 0, 0, 0)", 1).due("count(0)", 1);
    sentence("28: n 0: no POINT, so no INDEX").does("sheet(0, 0, 3)").due("scan(0, 0, -1, 0)", 0)
        .due("scan(0, 0, 4, 0)", 0).due("scan(0, 0, " + Integer.MAX_VALUE + ", 0)", 0)
        .due("scan(0, 0, " + Integer.MIN_VALUE + ", 0)", 0);
    sheetOf(sentence("28: how many it has then: to those that are there"), INTS, 3, 0, 0).does("point(0, 0, false)")
        .due("scan(0, 2, 0, 1)", 2).due("way()", 3);
  }

  private static void scanRefused() {
    sentence("28: BAD: k").does("sheet(0, 0, 9)").refused(-1, "scan(-1, 0, 0, 1)", "scan(4, 0, 0, 1)")
        .refusedFarBeyond(-1, "scan(#, 0, 0, 1)");
    sentence("28: BAD: lane").does("sheet(0, 0, 9)").refused(-1, "scan(0, -1, 0, 1)", "scan(0, 3, 0, 1)")
        .refusedFarBeyond(-1, "scan(0, #, 0, 1)");
    sentence("28: BAD: n").does("sheet(0, 0, 60)").refused(-1, "scan(0, 0, 0, -1)", "scan(0, 0, 0, 21)")
        .refusedFarBeyond(-1, "scan(0, 0, 0, #)");
    sentence("28: BAD ahead of NULL").refused(-1, "scan(0, 3, 0, 1)", "scan(0, 0, 0, 21)", "scan(4, 0, 0, 1)");
    sentence("28: BAD ahead of CAST").does("sheet(0, 0, 9)").refused(-1, "scan(0, 1, 0, 21)", "scan(0, 1, 0, -1)");
    sentence("28: BAD ahead of INDEX").does("sheet(0, 0, 9)").refused(-1, "scan(0, 0, -1, 21)");
  }

  private static void scanNullAndCast() {
    sentence("28: -10 less the FAULT: NULL").does("sheet(1, 0, 9)").refused(-11, "scan(0, 0, 0, 1)", "scan(0, 1, 0, 0)",
        "scan(0, 2, -1, 20)");
    for (int lane = BYTES; lane <= INTS; lane++) {
      int other = (lane + 1) % 3;
      int third = (lane + 2) % 3;
      sheetOf(sentence("28: -10 less the FAULT: CAST (another lane)"), lane, 1, 2, 0).refused(-13,
          "scan(0, " + other + ", 0, 1)", "scan(0, " + third + ", 0, 0)", "scan(0, " + third + ", -1, 1)")
          .due("scan(0, " + lane + ", 0, 1)", 1);
    }
  }

  private static void scanIndex() {
    sheetOf(sentence("28: INDEX: of x"), INTS, 1, 2, 0).refused(-12, "scan(0, 2, 3, 1)", "scan(0, 2, 59, 1)").due("count(0)", 0);
    sheetOf(sentence("28: INDEX: of y"), INTS, 1, 2, 0).refused(-12, "scan(0, 2, 2, 1)").due("count(0)", 0);
    sheetOf(sentence("28: INDEX: of whether LIFTED to"), INTS, 1, 2, 0).refused(-12, "scan(0, 2, 1, 1)").due("count(0)", 0);
    sheetOf(sentence("28: INDEX: below 0"), INTS, 1, 2, 0, 3, 4, 0).refused(-12, "scan(0, 2, -1, 1)", "scan(0, 2, -3, 2)",
        "scan(0, 2, -1, 20)").due("count(0)", 0);
    sheetOf(sentence("28: INDEX: of a later POINT: then none came"), INTS, 1, 2, 0, 3, 4, 0, 5, 6)
        .does("point(9, 9, false)").refused(-12, "scan(0, 2, 0, 3)").due("count(0)", 1).due("way()", 0)
        .due("scan(0, 2, 0, 2)", 3);
    sentence("28: INDEX: of a SHEET of no CELLS").does("sheet(3, 1, 0)").refused(-12, "scan(3, 1, 0, 1)", "scan(3, 1, 0, 20)");
    sentence("28: INDEX: not of another SHEET's CELLS").does("sheet(0, 0, 4)", "sheet(1, 0, 60)")
        .refused(-12, "scan(0, 0, 2, 1)", "scan(0, 0, 58, 1)", "scan(0, 0, 60, 1)", "scan(1, 0, 58, 1)");
  }

  /** f + 3 i lies beyond what a number holds. */
  private static void scanWrapsRoundNowhere() {
    Told x = sentence("28: INDEX: far beyond").does("sheet(0, 0, 60)").refusedFarBeyond(-12, "scan(0, 0, #, 1)")
        .refusedFarBeyond(-12, "scan(0, 0, #, 20)");
    for (int less = 0; less <= 60; less += 3) {
      x.due("scan(0, 0, " + (Integer.MAX_VALUE - less) + ", 20)", -12);
      x.due("scan(0, 0, " + (Integer.MIN_VALUE + less) + ", 20)", -12);
    }
    x.due("count(0)", 0);
  }

  private static void scanWhatPointRefuses() {
    sheetOf(sentence("28: -20 and what point() refuses: BAD, of x"), INTS, 101, 0, 0).refused(-21, "scan(0, 2, 0, 1)");
    sheetOf(sentence("28: -20 and what point() refuses: BAD, of y"), INTS, 0, -101, 0).refused(-21, "scan(0, 2, 0, 1)");
    sheetOf(sentence("28: -20 and what point() refuses: then none came"), INTS, 1, 1, 0, 0, -101, 0)
        .does("point(7, 7, false)").refused(-21, "scan(0, 2, 0, 2)").due("count(0)", 1)
        .due("point(7, 9, false)", 2).due("way()", 2);
    sheetOf(sentence("28: then none came: the first is never LIFTED to"), INTS, 1, 1, 0, 0, -101, 0)
        .refused(-21, "scan(0, 2, 0, 2)").due("count(0)", 0).due("point(0, 0, true)", 1)
        .due("point(3, 0, false)", 2).due("way()", 3);
    sentence("28: -20 and what point() refuses: FULL").does("sheet(0, 0, 60)").due("scan(0, 0, 0, 20)", 20)
        .refused(-23, "scan(0, 0, 0, 11)", "scan(0, 0, 0, 20)").due("count(0)", 20).due("scan(0, 0, 0, 10)", 30)
        .refused(-23, "scan(0, 0, 0, 1)").due("scan(0, 0, 0, 0)", 30).due("clear()", 30);
  }

  private static void scanTheFirstMet() {
    sheetOf(sentence("28: the first met: BAD of a POINT ahead of INDEX of the next"), INTS, 0, 0, 0, 101, 0, 0, 0)
        .refused(-21, "scan(0, 2, 0, 3)");
    sheetOf(sentence("28: the first met: INDEX of a POINT ahead of what point() refuses of it"), INTS, 0, 0, 0, 101, 101)
        .refused(-12, "scan(0, 2, 0, 2)");
    Told full = sentence("28: the first met: BAD ahead of FULL of one POINT").does("sheet(0, 2, 60)", "scan(0, 2, 0, 20)",
        "scan(0, 2, 0, 10)", "lay(0, 0, 101)").refused(-21, "scan(0, 2, 0, 1)");
    full.refused(-23, "scan(0, 2, 3, 1)");
    sentence("28: the first met: FULL of a POINT ahead of INDEX and BAD of the next").does("sheet(0, 2, 60)",
        "scan(0, 2, 0, 20)", "scan(0, 2, 0, 10)", "lay(0, 3, 101)").refused(-23, "scan(0, 2, 57, 2)", "scan(0, 2, 0, 2)");
    sentence("28: the first met: INDEX ahead of FULL of one POINT").does("sheet(0, 2, 60)", "scan(0, 2, 0, 20)",
        "scan(0, 2, 0, 10)").refused(-12, "scan(0, 2, 58, 1)", "scan(0, 2, -1, 1)");
  }

  // ---- 29

  private static void count() {
    sentence("29: BAD").refused(-1, "count(-1)", "count(5)").refusedFarBeyond(-1, "count(#)");
    sentence("29: 0 at first").dueAll(0, "count(0)", "count(1)", "count(2)", "count(3)", "count(4)");
    sentence("29: 0 POINTS of THE DRAFT").draw(0, 0, 1, 0).due("count(0)", 2).does("point(0, 0, true)").due("count(0)", 3)
        .does("clear()").due("count(0)", 0);
    sentence("29: 1 TAUGHT, 4 acts that can be undone").draw(0, 0, 1, 0).does("teach(1, 0)", "teach(2, 0)",
        "label(0, 3)").due("count(1)", 2).due("count(4)", 3).does("forget(1)").due("count(1)", 1).due("count(4)", 4)
        .does("undo()").due("count(1)", 2).due("count(4)", 3);
    sentence("29: 2 COMMANDS").does("command(0, 0, 1, 1, 0, 0, 0)", "command(0, 0, 1, 2, 0, 0, 0)").due("count(2)", 2);
    sentence("29: 3 LABELS of THE LINE").draw(0, 0, 1, 0).does("teach(1, 0)", "mark()").due("count(3)", 1)
        .does("wipe()").due("count(3)", 0);
  }
}
