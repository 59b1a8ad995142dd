/** The boundary cases of promises 20 to 25 and of what 'Terms' say of COMMANDS: each sentence has its own test. */
final class CommandsEdgesTest {
  private static final Check CHECK = new Check("CommandsEdgesTest");
  private static final int MOST = 10, LINE = 40;

  private static Told sentence(String words) {
    return new Told(CHECK, words);
  }

  public static void main(String[] args) {
    command();
    commandRefused();
    commandLabelsRefused();
    commandFull();
    parsedByMostLabels();
    parsedAtTheEnds();
    parsedInContexts();
    parse();
    found();
    foundInAFullLine();
    hidden();
    hiddenInContexts();
    line();
    wipe();
    CHECK.finish();
  }

  /** A LINE of these LABELS (0 to 3); the mark of label v is drawn to (v + 1, 10). */
  private static Told lineOf(Told x, int... labels) {
    for (int v = 0; v <= 3; v++) {
      x.draw(0, 0, v + 1, 10).does("teach(" + v + ", 0)");
    }
    x.does("clear()");
    return goOn(x, labels);
  }

  private static Told goOn(Told x, int... labels) {
    for (int v : labels) {
      x.does("point(0, 0, false)", "point(" + (v + 1) + ", 10, false)").due("mark()", v);
    }
    return x;
  }

  /** The COMMANDS that are found in a CONTEXT: number, place, number, place, .. */
  private static Told dueFound(Told x, int context, int... numbersAndPlaces) {
    int many = numbersAndPlaces.length / 2;
    x.due("parse(" + context + ")", many);
    for (int i = 0; i < many; i++) {
      x.due("found(" + context + ", " + i + ", 0)", numbersAndPlaces[2 * i]);
      x.due("found(" + context + ", " + i + ", 1)", numbersAndPlaces[2 * i + 1]);
    }
    return x.due("found(" + context + ", " + many + ", 0)", -4).due("found(" + context + ", " + many + ", 1)", -4);
  }

  private static void command() {
    sentence("20: CONTEXT (0 to 3)").due("command(0, 0, 1, 1, 0, 0, 0)", 0).due("command(3, 0, 1, 1, 0, 0, 0)", 1);
    sentence("20: RANK (0 to 9)").due("command(0, 0, 1, 1, 0, 0, 0)", 0).due("command(0, 9, 1, 1, 0, 0, 0)", 1);
    sentence("20: n LABELS (1 to 4)").due("command(0, 0, 1, 9, 0, 0, 0)", 0).due("command(0, 0, 2, 9, 9, 0, 0)", 1)
        .due("command(0, 0, 3, 9, 9, 9, 0)", 2).due("command(0, 0, 4, 9, 9, 9, 9)", 3).due("count(2)", 4);
    sentence("20: LABELS (0 to 9)").due("command(0, 0, 4, 0, 0, 0, 0)", 0).due("command(0, 0, 4, 9, 9, 9, 9)", 1);
    sentence("20: one that there is already").due("command(1, 2, 1, 3, 0, 0, 0)", 0)
        .due("command(1, 2, 1, 3, 0, 0, 0)", 1).due("count(2)", 2);
  }

  private static void commandRefused() {
    sentence("20: BAD: CONTEXT").refused(-1, "command(-1, 0, 1, 1, 0, 0, 0)", "command(4, 0, 1, 1, 0, 0, 0)")
        .refusedFarBeyond(-1, "command(#, 0, 1, 1, 0, 0, 0)").due("count(2)", 0);
    sentence("20: BAD: RANK").refused(-1, "command(0, -1, 1, 1, 0, 0, 0)", "command(0, 10, 1, 1, 0, 0, 0)")
        .refusedFarBeyond(-1, "command(0, #, 1, 1, 0, 0, 0)").due("count(2)", 0);
    sentence("20: BAD: n").refused(-1, "command(0, 0, 0, 0, 0, 0, 0)", "command(0, 0, -1, 0, 0, 0, 0)",
        "command(0, 0, 5, 1, 1, 1, 1)").refusedFarBeyond(-1, "command(0, 0, #, 0, 0, 0, 0)").due("count(2)", 0);
  }

  private static void commandLabelsRefused() {
    sentence("20: BAD: a").refused(-1, "command(0, 0, 1, -1, 0, 0, 0)", "command(0, 0, 1, 10, 0, 0, 0)")
        .refusedFarBeyond(-1, "command(0, 0, 1, #, 0, 0, 0)");
    sentence("20: BAD: b").refused(-1, "command(0, 0, 2, 1, -1, 0, 0)", "command(0, 0, 2, 1, 10, 0, 0)")
        .refusedFarBeyond(-1, "command(0, 0, 2, 1, #, 0, 0)");
    sentence("20: BAD: c").refused(-1, "command(0, 0, 3, 1, 1, -1, 0)", "command(0, 0, 3, 1, 1, 10, 0)")
        .refusedFarBeyond(-1, "command(0, 0, 3, 1, 1, #, 0)");
    sentence("20: BAD: d").refused(-1, "command(0, 0, 4, 1, 1, 1, -1)", "command(0, 0, 4, 1, 1, 1, 10)")
        .refusedFarBeyond(-1, "command(0, 0, 4, 1, 1, 1, #)");
    sentence("20: those beyond n 0: of one").refused(-1, "command(0, 0, 1, 1, 1, 0, 0)",
        "command(0, 0, 1, 1, 0, 1, 0)", "command(0, 0, 1, 1, 0, 0, 1)", "command(0, 0, 1, 1, -1, 0, 0)");
    sentence("20: those beyond n 0: of two").refused(-1, "command(0, 0, 2, 1, 1, 1, 0)",
        "command(0, 0, 2, 1, 1, 0, 9)", "command(0, 0, 2, 1, 1, -1, 0)");
    sentence("20: those beyond n 0: of three").refused(-1, "command(0, 0, 3, 1, 1, 1, 1)",
        "command(0, 0, 3, 1, 1, 1, -1)").refusedFarBeyond(-1, "command(0, 0, 3, 1, 1, 1, #)");
  }

  /** Ten COMMANDS of one LABEL each, number k of LABEL k. */
  private static Told ten(Told x) {
    for (int k = 0; k < MOST; k++) {
      x.due("command(0, 0, 1, " + k + ", 0, 0, 0)", k);
    }
    return x;
  }

  private static void commandFull() {
    ten(sentence("20: FULL: COMMANDS (10)")).refused(-3, "command(0, 0, 1, 1, 0, 0, 0)", "command(3, 9, 4, 9, 9, 9, 9)")
        .due("count(2)", MOST).due("hidden()", -4);
    ten(sentence("20: BAD; FULL: the first that fits")).refused(-1, "command(0, 0, 1, 10, 0, 0, 0)",
        "command(4, 0, 1, 1, 0, 0, 0)", "command(0, 0, 0, 0, 0, 0, 0)");
    Told seen = lineOf(sentence("20: FULL: the tenth stays as it is"), 3);
    for (int k = 0; k < MOST; k++) {
      seen.does("command(0, " + Math.max(4, k) + ", 1, " + Math.min(3, k) + ", 0, 0, 0)");
    }
    seen.due("found(0, 0, 0)", 9).refused(-3, "command(0, 0, 1, 3, 0, 0, 0)", "command(0, 9, 1, 2, 0, 0, 0)",
        "command(1, 9, 1, 3, 0, 0, 0)", "command(0, 9, 2, 3, 0, 0, 0)").due("found(0, 0, 0)", 9);
    dueFound(lineOf(ten(sentence("20: FULL: the tenth is one")), 3, 1, 0), 0, 3, 0, 1, 1, 0, 2);
  }

  // ---- Terms, 2: PARSED

  private static void parsedByMostLabels() {
    Told most = lineOf(sentence("the command with the most LABELS"), 1, 1, 1, 1)
        .does("command(0, 9, 1, 1, 0, 0, 0)", "command(0, 8, 2, 1, 1, 0, 0)", "command(0, 0, 3, 1, 1, 1, 0)");
    dueFound(most, 0, 2, 0, 0, 3);
    dueFound(most.does("command(0, 0, 4, 1, 1, 1, 1)"), 0, 3, 0);
    dueFound(lineOf(sentence("then the greatest RANK"), 1, 1).does("command(0, 3, 2, 1, 1, 0, 0)",
        "command(0, 4, 2, 1, 1, 0, 0)", "command(0, 2, 2, 1, 1, 0, 0)"), 0, 1, 0);
    dueFound(lineOf(sentence("then the least number"), 1, 1).does("command(0, 3, 2, 2, 2, 0, 0)",
        "command(0, 3, 2, 1, 1, 0, 0)", "command(0, 3, 2, 1, 1, 0, 0)"), 0, 1, 0);
    dueFound(lineOf(sentence("LABELS 0 are LABELS"), 0, 0, 1, 0).does("command(0, 0, 1, 0, 0, 0, 0)",
        "command(0, 0, 2, 0, 0, 0, 0)", "command(0, 0, 3, 0, 0, 0, 0)"), 0, 1, 0, 0, 3);
    dueFound(lineOf(sentence("where none stands the LABEL alone is passed over"), 2, 1, 2, 2, 1, 2)
        .does("command(0, 0, 2, 1, 2, 0, 0)"), 0, 0, 1, 0, 4);
    // At place 0 the first two would stand, so 1, 2, 3 at place 1 is never reached.
    dueFound(lineOf(sentence("from its beginning: what was found is passed over whole"), 0, 1, 2, 3)
        .does("command(0, 0, 2, 0, 1, 0, 0)", "command(0, 9, 3, 1, 2, 3, 0)"), 0, 0, 0);
  }

  private static void parsedAtTheEnds() {
    dueFound(sentence("an empty LINE").does("command(0, 0, 1, 0, 0, 0, 0)"), 0);
    dueFound(lineOf(sentence("a LINE without COMMANDS"), 1, 2, 3), 0);
    dueFound(lineOf(sentence("it stands to the last LABEL"), 0, 1, 2).does("command(0, 0, 2, 1, 2, 0, 0)"), 0, 0, 1);
    dueFound(lineOf(sentence("it stands over all LABELS"), 0, 1, 2, 3).does("command(0, 0, 4, 0, 1, 2, 3)"), 0, 0, 0);
    dueFound(lineOf(sentence("beyond the last LABEL none stands"), 1, 2).does("command(0, 0, 3, 1, 2, 0, 0)",
        "command(0, 0, 4, 1, 2, 0, 0)", "command(0, 0, 2, 2, 0, 0, 0)"), 0);
    Told wiped = lineOf(sentence("nor in what THE LINE had before it was wiped"), 1, 2, 3)
        .does("command(0, 0, 2, 1, 2, 0, 0)", "wipe()");
    dueFound(goOn(wiped, 1), 0);
    dueFound(goOn(wiped, 2), 0, 0, 0);
  }

  private static void parsedInContexts() {
    Told x = lineOf(sentence("a command of CONTEXT 0 in all"), 1, 2).does("command(0, 0, 1, 1, 0, 0, 0)",
        "command(1, 0, 1, 2, 0, 0, 0)", "command(3, 0, 1, 2, 0, 0, 0)");
    dueFound(x, 0, 0, 0);
    dueFound(x, 1, 0, 0, 1, 1);
    dueFound(x, 2, 0, 0);
    dueFound(x, 3, 0, 0, 2, 1);
    Told y = lineOf(sentence("one of CONTEXT 0 has no less RANK for that"), 1).does("command(2, 5, 1, 1, 0, 0, 0)",
        "command(0, 6, 1, 1, 0, 0, 0)");
    dueFound(y, 2, 1, 0);
    dueFound(y, 1, 1, 0);
  }

  // ---- promises

  private static void parse() {
    sentence("21: CONTEXT (0 to 3)").due("parse(0)", 0).due("parse(3)", 0);
    lineOf(sentence("21: BAD"), 1, 2).does("command(0, 0, 1, 1, 0, 0, 0)").due("parse(3)", 1)
        .refused(-1, "parse(-1)", "parse(4)").refusedFarBeyond(-1, "parse(#)").due("parse(0)", 1);
    lineOf(sentence("21: THE LINE stays"), 1, 2).does("command(0, 0, 2, 1, 2, 0, 0)").due("parse(0)", 1)
        .due("count(3)", 2).due("line(1)", 2).due("parse(0)", 1);
  }

  private static void found() {
    Told x = lineOf(sentence("22: BAD: CONTEXT"), 1, 2).does("command(0, 0, 1, 2, 0, 0, 0)");
    x.refused(-1, "found(-1, 0, 0)", "found(4, 0, 0)").refusedFarBeyond(-1, "found(#, 0, 0)");
    lineOf(sentence("22: BAD: also i below 0"), 1, 2).does("command(0, 0, 1, 2, 0, 0, 0)")
        .refused(-1, "found(0, -1, 0)", "found(0, -1, 1)", "found(0, " + Integer.MIN_VALUE + ", 0)")
        .due("found(0, 0, 1)", 1);
    lineOf(sentence("22: BAD: what"), 1, 2).does("command(0, 0, 1, 2, 0, 0, 0)").due("found(0, 0, 0)", 0)
        .due("found(0, 0, 1)", 1).refused(-1, "found(0, 0, -1)", "found(0, 0, 2)").refusedFarBeyond(-1, "found(0, 0, #)");
    lineOf(sentence("22: NONE"), 1, 2).does("command(0, 0, 1, 2, 0, 0, 0)").refused(-4, "found(0, 1, 0)",
        "found(0, 1, 1)", "found(0, 40, 0)", "found(0, " + Integer.MAX_VALUE + ", 1)");
    sentence("22: NONE: nothing at all").refused(-4, "found(0, 0, 0)", "found(3, 0, 1)");
    sentence("22: BAD; NONE: the first that fits").refused(-1, "found(0, 0, 2)", "found(0, 99, -1)",
        "found(4, 99, 0)", "found(0, -1, 0)");
    lineOf(sentence("22: of that CONTEXT, whichever was parsed last"), 1, 2).does("command(1, 0, 1, 2, 0, 0, 0)")
        .due("parse(1)", 1).refused(-4, "found(2, 0, 0)").due("parse(2)", 0).due("found(1, 0, 1)", 1);
  }

  /** A LINE of 40 LABELS 0. */
  private static Told fullLine(Told x) {
    x.draw(0, 0, 1, 10).does("teach(0, 0)", "clear()");
    return goOn(x, new int[LINE]);
  }

  private static void foundInAFullLine() {
    fullLine(sentence("21: THE LINE (40): forty COMMANDS")).does("command(3, 0, 1, 0, 0, 0, 0)").due("parse(3)", LINE)
        .due("found(3, 39, 0)", 0).due("found(3, 39, 1)", 39).refused(-4, "found(3, 40, 0)").due("parse(0)", 0);
    fullLine(sentence("21: THE LINE (40): thirteen of three, one of one")).does("command(0, 0, 3, 0, 0, 0, 0)",
        "command(0, 0, 1, 0, 0, 0, 0)").due("parse(0)", 14).due("found(0, 12, 1)", 36).due("found(0, 13, 0)", 1)
        .due("found(0, 13, 1)", 39).refused(-4, "found(0, 14, 0)");
  }

  private static void hidden() {
    sentence("23: NONE: no COMMANDS").refused(-4, "hidden()");
    sentence("23: NONE: not by itself").does("command(1, 9, 1, 1, 0, 0, 0)").refused(-4, "hidden()");
    sentence("23: with a greater RANK").does("command(1, 4, 1, 1, 0, 0, 0)", "command(1, 5, 1, 1, 0, 0, 0)")
        .due("hidden()", 0);
    sentence("23: with a less RANK it hides none ahead").does("command(1, 5, 1, 1, 0, 0, 0)",
        "command(1, 4, 1, 1, 0, 0, 0)").due("hidden()", 1);
    sentence("23: or the same and a less number").does("command(1, 5, 1, 1, 0, 0, 0)", "command(1, 5, 1, 1, 0, 0, 0)")
        .due("hidden()", 1);
    sentence("23: of the same LABELS: each of four").does("command(0, 5, 4, 1, 2, 3, 4)", "command(0, 5, 4, 9, 2, 3, 4)",
        "command(0, 5, 4, 1, 9, 3, 4)", "command(0, 5, 4, 1, 2, 9, 4)", "command(0, 5, 4, 1, 2, 3, 9)")
        .refused(-4, "hidden()").does("command(0, 5, 4, 1, 2, 3, 9)").due("hidden()", 5);
    sentence("23: of the same LABELS: as many").does("command(0, 9, 1, 0, 0, 0, 0)", "command(0, 8, 2, 0, 0, 0, 0)",
        "command(0, 7, 3, 0, 0, 0, 0)", "command(0, 6, 4, 0, 0, 0, 0)").refused(-4, "hidden()");
    sentence("23: the first").does("command(0, 5, 1, 1, 0, 0, 0)", "command(0, 5, 1, 2, 0, 0, 0)",
        "command(0, 5, 1, 2, 0, 0, 0)", "command(0, 6, 1, 1, 0, 0, 0)").due("hidden()", 0);
    Told ten = sentence("23: the last of ten");
    for (int v = 0; v < MOST - 1; v++) {
      ten.does("command(0, 5, 1, " + v + ", 0, 0, 0)");
    }
    ten.refused(-4, "hidden()").does("command(0, 5, 1, 8, 0, 0, 0)").due("hidden()", 9);
  }

  private static void hiddenInContexts() {
    sentence("23: in the same CONTEXT").does("command(2, 5, 1, 1, 0, 0, 0)", "command(2, 6, 1, 1, 0, 0, 0)")
        .due("hidden()", 0);
    sentence("23: or 0").does("command(2, 5, 1, 1, 0, 0, 0)", "command(0, 6, 1, 1, 0, 0, 0)").due("hidden()", 0);
    sentence("23: NONE: in another CONTEXT").does("command(2, 5, 1, 1, 0, 0, 0)", "command(1, 6, 1, 1, 0, 0, 0)")
        .refused(-4, "hidden()");
    sentence("23: NONE: one of CONTEXT 0 by one of another").does("command(0, 5, 1, 1, 0, 0, 0)",
        "command(3, 6, 1, 1, 0, 0, 0)").refused(-4, "hidden()");
    sentence("23: or 0, the same RANK and a less number").does("command(0, 5, 1, 1, 0, 0, 0)",
        "command(3, 5, 1, 1, 0, 0, 0)").due("hidden()", 1);
    sentence("23: NONE: or 0, the same RANK and a greater number").does("command(3, 5, 1, 1, 0, 0, 0)",
        "command(0, 5, 1, 1, 0, 0, 0)").refused(-4, "hidden()");
  }

  private static void line() {
    sentence("24: BAD: an empty one").refused(-1, "line(0)", "line(-1)");
    lineOf(sentence("24: BAD"), 3, 0, 2).due("line(0)", 3).due("line(1)", 0).due("line(2)", 2)
        .refused(-1, "line(-1)", "line(3)", "line(40)").refusedFarBeyond(-1, "line(#)");
    fullLine(sentence("24: the last of forty")).due("line(39)", 0).refused(-1, "line(40)");
    lineOf(sentence("24: LABELS of marks that were READ: they stay"), 3, 2).does("label(3, 1)", "forget(2)")
        .due("line(0)", 3).due("line(1)", 2);
    lineOf(sentence("24: BAD: it was wiped"), 3, 2).does("wipe()").refused(-1, "line(0)", "line(1)");
  }

  private static void wipe() {
    sentence("25: how many LABELS it had: none").due("wipe()", 0).due("wipe()", 0);
    lineOf(sentence("25: how many LABELS it had: three"), 3, 0, 2).due("wipe()", 3).due("count(3)", 0).due("wipe()", 0);
    fullLine(sentence("25: how many LABELS it had: forty")).due("wipe()", LINE).due("count(3)", 0);
    lineOf(sentence("25: THE LINE is emptied, and nothing else"), 3).does("command(0, 0, 1, 3, 0, 0, 0)")
        .draw(1, 1, 2, 2).due("wipe()", 1).due("count(0)", 2).due("count(1)", 4).due("count(2)", 1)
        .due("count(4)", 4).due("parse(0)", 0);
  }
}
