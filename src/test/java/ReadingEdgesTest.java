/** The boundary cases of promises 13 to 19 and of what 'Terms' say of DISTANCES: each sentence has its own test. */
final class ReadingEdgesTest {
  private static final Check CHECK = new Check("ReadingEdgesTest");
  private static final int[] RIGHT = {0, 0, 7, 0};
  private static final int[] LEFT = {7, 0, 0, 0};
  private static final int[] UP = {0, 0, 0, 7};
  private static final int[] CORNER = {0, 0, 3, 0, 3, 4};
  private static final int[] MIRRORED = {0, 0, 0, 3, 4, 3};
  /** Marks of two strokes: the second is 20000 from the first, the fourth 20001 from the third. */
  private static final int[][] FAR = {
    {1, 4, -9, 8, -6, 2, -10, -4}, {-8, 2, 4, -2, 5, 4, 2, 10},
    {2, 7, 4, 6, 7, 2, 3, 3}, {9, -6, -3, 6, 7, 10, 10, 5},
  };

  private static Told sentence(String words) {
    return new Told(CHECK, words);
  }

  public static void main(String[] args) {
    turns();
    eitherEnd();
    clouds();
    nearestOfSeveral();
    endAtMost();
    marginAtLeast();
    ends();
    distance();
    nearest();
    read();
    mark();
    markFull();
    markRefusedOnAFullLine();
    confused();
    confusedRefused();
    between();
    CHECK.finish();
  }

  private static Told teach(Told x, String labelAndKind, int... xy) {
    return x.draw(xy).does("teach(" + labelAndKind + ")");
  }

  // ---- Terms, 2

  private static void turns() {
    teach(sentence("KIND 1 TURNED: by 0 to 3 quarters: 0"), "1, 1", CORNER).due("distance(0)", 0);
    teach(sentence("KIND 1 TURNED: by 0 to 3 quarters: 1"), "1, 1", CORNER)
        .draw(0, 0, 0, 3, -4, 3).due("distance(0)", 0);
    teach(sentence("KIND 1 TURNED: by 0 to 3 quarters: 2"), "1, 1", CORNER)
        .draw(0, 0, -3, 0, -3, -4).due("distance(0)", 0);
    teach(sentence("KIND 1 TURNED: by 0 to 3 quarters: 3"), "1, 1", CORNER)
        .draw(0, 0, 0, -3, 4, -3).due("distance(0)", 0);
    teach(sentence("KIND 1 TURNED: it is not mirrored"), "1, 1", CORNER).draw(MIRRORED).due("distance(0)", 10000);
    // NORMAL is divided down ahead of the turn, so that a turned one is not the turned one's NORMAL.
    teach(sentence("KIND 1 TURNED: the NORMAL of the mark is turned"), "1, 1", RIGHT).draw(LEFT).due("distance(0)", 6);
    teach(sentence("KIND 0 AS IT IS: not turned"), "1, 0", RIGHT).draw(LEFT).due("distance(0)", 9142);
  }

  private static void eitherEnd() {
    teach(sentence("KIND 2 EITHER: POINT i as POINT i"), "1, 2", CORNER).due("distance(0)", 0);
    teach(sentence("KIND 2 EITHER: POINT i also as POINT 7 - i"), "1, 2", CORNER)
        .draw(3, 4, 3, 0, 0, 0).due("distance(0)", 0);
    teach(sentence("KIND 2 EITHER: not turned"), "1, 2", RIGHT).draw(UP).due("distance(0)", 9142);
  }

  private static void clouds() {
    int[] mark = {4, 8, 8, 7, 7, 8};
    int[] other = {3, 6, 4, 2, 4, 4};
    // Each to its nearest: 4500 (some twice); nearest first: 7100 or 7400; in order 6900, from the end 10200.
    teach(sentence("KIND 3: of the pairing with the least sum, one to one"), "1, 3", other)
        .draw(mark).due("distance(0)", 6800);
    teach(sentence("KIND 3: of the pairing with the least sum, the other way"), "1, 3", mark)
        .draw(other).due("distance(0)", 6800);
    teach(sentence("KIND 0 is not paired"), "1, 0", other).draw(mark).due("distance(0)", 6900);
    teach(sentence("KIND 3 CLOUD: not turned"), "1, 3", RIGHT).draw(UP).due("distance(0)", 9142);
    teach(sentence("KIND 4 TURNED CLOUD"), "1, 4", RIGHT).draw(UP).due("distance(0)", 0)
        .draw(LEFT).due("distance(0)", 0).draw(0, 7, 0, 0).due("distance(0)", 0);
    sentence("KIND 4 TURNED CLOUD: turned and in another order").drawPairs(0, 0, 30, 0, 0, 0, 0, 40)
        .does("teach(1, 4)", "teach(1, 3)", "teach(1, 1)").drawPairs(0, 0, -40, 0, 0, 0, 0, 30)
        .due("distance(0)", 0).due("distance(1)", 8500).due("distance(2)", 11500);
  }

  private static void nearestOfSeveral() {
    Told x = teach(sentence("NEAREST: the least number of several"), "3, 0", UP);
    teach(x, "2, 0", RIGHT);
    teach(x, "1, 0", RIGHT).due("nearest()", 1).due("read()", 2).due("forget(1)", 2).due("nearest()", 1)
        .due("read()", 1).draw(LEFT).due("nearest()", 0).due("read()", 3);
    Told y = sentence("NEAREST: of sixteen, the last");
    for (int k = 0; k < 15; k++) {
      teach(y, "0, 0", UP);
    }
    teach(y, "5, 0", RIGHT).due("nearest()", 15).due("read()", 5).draw(UP).due("nearest()", 0);
  }

  private static void endAtMost() {
    sentence("at most END (20000 at first): 20000").drawPairs(FAR[0]).does("teach(6, 0)").drawPairs(FAR[1])
        .due("distance(0)", 20000).due("read()", 6).due("mark()", 6);
    sentence("at most END (20000 at first): 20001").drawPairs(FAR[2]).does("teach(6, 0)").drawPairs(FAR[3])
        .due("distance(0)", 20001).refused(-5, "read()", "mark()").due("nearest()", 0);
    teach(sentence("at most END"), "6, 0", RIGHT).draw(LEFT).due("ends(9142, 0)", 1).due("read()", 6)
        .due("ends(9141, 0)", 1).refused(-5, "read()").due("ends(9143, 0)", 1).due("read()", 6);
    teach(sentence("at most END: 0"), "6, 0", RIGHT).due("ends(0, 0)", 1).due("read()", 6)
        .draw(LEFT).refused(-5, "read()");
  }

  private static void marginAtLeast() {
    Told x = teach(sentence("MARGIN (0 at first) more at least: alike at first"), "1, 0", RIGHT);
    teach(x, "2, 0", UP).draw(LEFT).due("distance(0)", 9142).due("distance(1)", 9142).due("read()", 1);
    Told y = teach(sentence("MARGIN more at least"), "1, 0", RIGHT);
    teach(y, "2, 0", UP).draw(RIGHT).due("ends(0, 9142)", 1).due("read()", 1).due("ends(0, 9143)", 1)
        .refused(-5, "read()", "mark()").due("ends(0, 9141)", 1).due("read()", 1);
    Told z = teach(sentence("MARGIN 1: alike is REJECTED"), "1, 0", RIGHT);
    teach(z, "2, 0", UP).draw(LEFT).due("ends(20000, 1)", 1).refused(-5, "read()")
        .due("label(1, 1)", 2).due("read()", 1);
    // The second nearest is of the same LABEL; the nearest one with another is the third.
    Told same = teach(sentence("the nearest one with another LABEL"), "1, 0", RIGHT);
    teach(same, "1, 0", RIGHT);
    teach(same, "2, 0", UP).draw(RIGHT).due("ends(0, 9142)", 1).due("read()", 1)
        .due("ends(0, 9143)", 1).refused(-5, "read()");
    teach(sentence("there is none with another LABEL"), "1, 0", RIGHT).due("ends(0, 100000)", 1).due("read()", 1);
  }

  // ---- promises

  private static void ends() {
    sentence("13: END (0 to 100000)").due("ends(0, 0)", 1).due("ends(100000, 0)", 1)
        .refused(-1, "ends(-1, 0)", "ends(100001, 0)").refusedFarBeyond(-1, "ends(#, 0)");
    sentence("13: MARGIN (0 to 100000)").due("ends(0, 0)", 1).due("ends(0, 100000)", 1)
        .refused(-1, "ends(0, -1)", "ends(0, 100001)").refusedFarBeyond(-1, "ends(0, #)");
    String[] refused = {"ends(-1, 0)", "ends(100001, 100000)", "ends(0, -1)", "ends(100000, 100001)"};
    teach(sentence("13: refused, END and MARGIN stay: it would be REJECTED by a less END"), "1, 0", RIGHT)
        .draw(LEFT).does("ends(9142, 5)").refused(-1, refused).due("read()", 1);
    teach(sentence("13: refused, END and MARGIN stay: it would be READ by a greater END"), "1, 0", RIGHT)
        .draw(LEFT).does("ends(9141, 5)").refused(-1, refused).due("read()", -5);
    Told x = teach(sentence("13: refused, END and MARGIN stay: it would be REJECTED by a greater MARGIN"), "1, 0", RIGHT);
    teach(x, "2, 0", UP).does("ends(5, 9142)").refused(-1, refused).due("read()", 2);
    Told y = teach(sentence("13: refused, END and MARGIN stay: it would be READ by a less MARGIN"), "1, 0", RIGHT);
    teach(y, "2, 0", UP).does("ends(5, 9143)").refused(-1, refused).due("read()", -5);
  }

  private static void distance() {
    sentence("14: BAD: nothing is TAUGHT").draw(RIGHT).refused(-1, "distance(0)");
    teach(sentence("14: BAD"), "1, 0", RIGHT).due("distance(0)", 0)
        .refused(-1, "distance(-1)", "distance(1)", "distance(16)").refusedFarBeyond(-1, "distance(#)");
    teach(sentence("14: STATE: its WAY is 0: no point"), "1, 0", RIGHT).does("clear()").refused(-2, "distance(0)");
    teach(sentence("14: STATE: its WAY is 0: one place"), "1, 0", RIGHT).draw(3, 3, 3, 3).refused(-2, "distance(0)")
        .does("point(3, 4, false)").due("distance(0)", 9151);
    teach(sentence("14: STATE: its WAY is 0: lifts"), "1, 0", RIGHT).does("clear()", "point(0, 0, false)",
        "point(7, 0, true)").refused(-2, "distance(0)");
    sentence("14: BAD; STATE: the first that fits").refused(-1, "distance(0)");
  }

  private static void nearest() {
    teach(sentence("15: STATE: no point"), "1, 0", RIGHT).does("clear()").refused(-2, "nearest()");
    teach(sentence("15: STATE: one place"), "1, 0", RIGHT).draw(3, 3, 3, 3).refused(-2, "nearest()");
    sentence("15: NONE: nothing is TAUGHT").draw(RIGHT).refused(-4, "nearest()").does("teach(1, 0)")
        .due("nearest()", 0).does("forget(0)").refused(-4, "nearest()");
    sentence("15: STATE; NONE: the first that fits").refused(-2, "nearest()");
    teach(sentence("15: also when it is REJECTED"), "1, 0", RIGHT).draw(LEFT).does("ends(0, 0)").due("nearest()", 0);
  }

  private static void read() {
    teach(sentence("16: -5: REJECTED"), "1, 0", RIGHT).draw(LEFT).does("ends(0, 0)").refused(-5, "read()");
    teach(sentence("16: STATE"), "1, 0", RIGHT).draw(3, 3, 3, 3).refused(-2, "read()");
    sentence("16: NONE").draw(RIGHT).refused(-4, "read()");
    sentence("16: STATE; NONE: the first that fits").refused(-2, "read()");
    teach(sentence("16: STATE ahead of REJECTED"), "1, 0", RIGHT).does("ends(0, 0)", "clear()").refused(-2, "read()");
    teach(sentence("16: LABEL 0 is a LABEL"), "0, 0", RIGHT).due("read()", 0).due("mark()", 0).due("line(0)", 0);
    teach(sentence("16: nothing changes"), "4, 0", RIGHT).due("read()", 4).due("count(0)", 2).due("count(3)", 0)
        .due("read()", 4);
  }

  private static void mark() {
    teach(sentence("17: its LABEL comes to THE LINE, THE DRAFT is emptied"), "4, 0", RIGHT).due("mark()", 4)
        .due("count(3)", 1).due("line(0)", 4).due("count(0)", 0).refused(-2, "mark()").due("count(3)", 1);
    teach(sentence("17: STATE (then nothing changes)"), "1, 0", RIGHT).draw(3, 3, 3, 3).refused(-2, "mark()")
        .due("count(0)", 2).due("count(3)", 0);
    sentence("17: NONE (then nothing changes)").draw(RIGHT).refused(-4, "mark()").due("count(0)", 2)
        .due("count(3)", 0).due("way()", 7);
    teach(sentence("17: -5 (then nothing changes)"), "1, 0", RIGHT).draw(LEFT).does("ends(9141, 0)")
        .refused(-5, "mark()").due("count(0)", 2).due("count(3)", 0).due("way()", 7).does("ends(9142, 0)")
        .due("mark()", 1);
    sentence("17: STATE; NONE: the first that fits").refused(-2, "mark()");
  }

  /** A LINE of 40 LABELS 1, of one TAUGHT mark that is drawn to the right. */
  private static Told fullLine(Told x) {
    teach(x, "1, 0", RIGHT);
    for (int n = 0; n < 40; n++) {
      x.does("point(0, 0, false)", "point(7, 0, false)").due("mark()", 1);
    }
    return x;
  }

  private static void markFull() {
    fullLine(sentence("17: FULL: 40")).due("count(3)", 40).draw(RIGHT).refused(-3, "mark()").due("count(0)", 2)
        .due("count(3)", 40).due("read()", 1).refused(-1, "line(40)").due("line(39)", 1);
    fullLine(sentence("17: FULL, and no more when it is wiped")).draw(RIGHT).refused(-3, "mark()")
        .due("wipe()", 40).due("mark()", 1).due("count(3)", 1).due("count(0)", 0);
  }

  /** As promise 17 lists them: STATE, NONE, -5, then FULL. */
  private static void markRefusedOnAFullLine() {
    fullLine(sentence("17: STATE ahead of FULL")).does("clear()").refused(-2, "mark()");
    fullLine(sentence("17: NONE ahead of FULL")).draw(RIGHT).does("forget(0)").refused(-4, "mark()");
    fullLine(sentence("17: -5 ahead of FULL")).draw(LEFT).does("ends(0, 0)").refused(-5, "mark()");
  }

  private static void confused() {
    Told x = teach(sentence("18: at most d"), "1, 0", RIGHT);
    teach(x, "2, 0", UP).due("between(0, 1)", 9142).due("confused(1, 9142)", 1).due("confused(1, 9141)", 0)
        .due("confused(2, 9142)", 1).due("confused(2, 9141)", 0);
    Told one = teach(sentence("18: one way or the other"), "1, 0", RIGHT);
    teach(one, "2, 1", UP).due("between(0, 1)", 0).due("between(1, 0)", 9142).due("confused(1, 0)", 1)
        .due("confused(2, 0)", 1);
    Told other = teach(sentence("18: one way or the other, the numbers changed"), "2, 1", UP);
    teach(other, "1, 0", RIGHT).due("confused(1, 0)", 1).due("confused(2, 0)", 1);
    Told same = teach(sentence("18: of another LABEL"), "5, 0", RIGHT);
    teach(same, "5, 0", RIGHT).due("confused(5, 100000)", 0).due("label(1, 6)", 5).due("confused(5, 0)", 1)
        .due("confused(6, 0)", 1);
    Told many = teach(sentence("18: how many of a LABEL: each once"), "1, 0", RIGHT);
    teach(many, "2, 0", RIGHT);
    teach(many, "3, 0", RIGHT);
    teach(many, "1, 0", RIGHT);
    teach(many, "1, 0", UP).due("confused(1, 0)", 2).due("confused(2, 0)", 1).due("confused(1, 9142)", 3);
    sentence("18: nothing is TAUGHT").due("confused(0, 0)", 0).due("confused(9, 100000)", 0);
    teach(sentence("18: there is none of the LABEL"), "1, 0", RIGHT).due("confused(2, 100000)", 0);
  }

  private static void confusedRefused() {
    teach(sentence("18: BAD: label"), "1, 0", RIGHT).refused(-1, "confused(-1, 0)", "confused(10, 0)")
        .refusedFarBeyond(-1, "confused(#, 0)");
    teach(sentence("18: d (0 to 100000)"), "1, 0", RIGHT).due("confused(1, 0)", 0).due("confused(1, 100000)", 0)
        .refused(-1, "confused(1, -1)", "confused(1, 100001)").refusedFarBeyond(-1, "confused(1, #)");
  }

  private static void between() {
    Told x = teach(sentence("19: of TAUGHT a from TAUGHT b: by the KIND of b"), "1, 0", CORNER);
    teach(x, "2, 1", MIRRORED).does("clear()").due("between(0, 1)", 10000).due("between(1, 0)", 13000);
    teach(sentence("19: of one from itself"), "1, 4", CORNER).due("between(0, 0)", 0);
    sentence("19: BAD: nothing is TAUGHT").refused(-1, "between(0, 0)");
    Told y = teach(sentence("19: BAD: a"), "1, 0", CORNER);
    teach(y, "1, 0", RIGHT).refused(-1, "between(-1, 0)", "between(2, 0)", "between(16, 1)")
        .refusedFarBeyond(-1, "between(#, 0)");
    Told z = teach(sentence("19: BAD: b"), "1, 0", CORNER);
    teach(z, "1, 0", RIGHT).refused(-1, "between(0, -1)", "between(0, 2)", "between(1, 16)")
        .refusedFarBeyond(-1, "between(0, #)").refusedFarBeyond(-1, "between(#, #)");
    Told w = teach(sentence("19: THE DRAFT is not asked"), "1, 0", RIGHT);
    teach(w, "1, 0", UP).draw(3, 3, 3, 3).due("between(0, 1)", 9142).due("way()", 0);
  }
}
