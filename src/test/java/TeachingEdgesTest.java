/** The boundary cases of promises 7 to 12 and of what 'Terms' say of TAUGHT ones: each sentence has its own test. */
final class TeachingEdgesTest {
  private static final Check CHECK = new Check("TeachingEdgesTest");
  private static final int MOST = 16;

  private static Told sentence(String words) {
    return new Told(CHECK, words);
  }

  public static void main(String[] args) {
    labelsAndKinds();
    teach();
    teachRefused();
    teachFull();
    forget();
    forgetRefused();
    undo();
    undoOfTheLatestSix();
    undoWithoutRefused();
    undoOfForgotten();
    label();
    told();
    taught();
    CHECK.finish();
  }

  /** Many marks: mark k of label k (less ten from 10 on), kind k by turns, drawn to (k + 1, 10). */
  private static Told teachMany(Told x, int many) {
    for (int k = 0; k < many; k++) {
      x.draw(0, 0, k + 1, 10).due("teach(" + k % 10 + ", " + k % 5 + ")", k);
    }
    return x;
  }

  private static void labelsAndKinds() {
    Told x = sentence("a LABEL (0 to 9)").draw(0, 0, 1, 0);
    for (int label = 0; label <= 9; label++) {
      x.due("teach(" + label + ", 0)", label).due("told(" + label + ", 0)", label);
    }
    Told y = sentence("a KIND: 0 to 4").draw(0, 0, 1, 0);
    for (int kind = 0; kind <= 4; kind++) {
      y.due("teach(0, " + kind + ")", kind).due("told(" + kind + ", 1)", kind);
    }
  }

  private static void teach() {
    sentence("7: THE DRAFT is TAUGHT (it stays)").draw(0, 0, 3, 0, 3, 4).due("teach(3, 2)", 0)
        .due("count(0)", 3).due("way()", 7).due("even(7, 1)", 400).due("teach(3, 2)", 1);
    sentence("7: what is TAUGHT goes no more with THE DRAFT").draw(0, 0, 3, 0, 3, 4).does("teach(3, 2)")
        .does("point(90, 90, false)").due("taught(0, 0, 0)", -750).due("taught(0, 7, 1)", 1000)
        .draw(0, 0, 7, 0).due("taught(0, 1, 1)", -1000);
    sentence("7: its number").draw(0, 0, 1, 0).due("teach(5, 0)", 0).due("teach(5, 0)", 1)
        .due("forget(0)", 5).due("teach(6, 0)", 1).due("told(1, 0)", 6);
  }

  private static void teachRefused() {
    sentence("7: BAD: label").draw(0, 0, 1, 0).refused(-1, "teach(-1, 0)", "teach(10, 0)")
        .refusedFarBeyond(-1, "teach(#, 0)").due("count(1)", 0).due("count(4)", 0).due("teach(1, 0)", 0);
    sentence("7: BAD: kind").draw(0, 0, 1, 0).refused(-1, "teach(0, -1)", "teach(0, 5)")
        .refusedFarBeyond(-1, "teach(0, #)").due("count(1)", 0).due("count(4)", 0).due("teach(0, 1)", 0);
    sentence("7: STATE: its WAY is 0: no point").refused(-2, "teach(0, 0)").due("count(4)", 0);
    sentence("7: STATE: its WAY is 0: one point").does("point(0, 0, false)").refused(-2, "teach(0, 0)")
        .due("count(0)", 1).due("count(1)", 0);
    sentence("7: STATE: its WAY is 0: one place").draw(4, 4, 4, 4).refused(-2, "teach(0, 0)")
        .due("count(0)", 2).due("count(1)", 0);
    sentence("7: STATE: its WAY is 0: lifts").does("point(0, 0, false)", "point(9, 9, true)")
        .refused(-2, "teach(0, 0)").does("point(9, 8, false)").due("teach(0, 0)", 0);
    sentence("7: BAD; STATE: the first that fits").refused(-1, "teach(10, 0)", "teach(0, 5)");
  }

  private static void teachFull() {
    teachMany(sentence("7: FULL: TAUGHT (16)"), MOST).due("count(1)", MOST).refused(-3, "teach(0, 0)")
        .due("count(1)", MOST).due("count(4)", 6).due("told(15, 0)", 5).refused(-1, "told(16, 0)");
    teachMany(sentence("7: FULL, and no more when one is forgotten"), MOST).refused(-3, "teach(9, 4)")
        .due("forget(0)", 0).due("teach(9, 4)", 15).refused(-3, "teach(9, 4)");
    teachMany(sentence("7: FULL, and no more when one is undone"), MOST).due("undo()", 5)
        .due("count(1)", 15).due("teach(9, 4)", 15).due("told(15, 0)", 9);
    teachMany(sentence("7: BAD; FULL: the first that fits"), MOST).refused(-1, "teach(10, 0)", "teach(0, -1)");
    teachMany(sentence("7: STATE; FULL: the first that fits"), MOST).does("clear()").refused(-2, "teach(0, 0)");
  }

  private static void forget() {
    teachMany(sentence("8: later ones get the number one less: the first"), 4).due("forget(0)", 0)
        .due("count(1)", 3).due("told(0, 0)", 1).due("told(1, 0)", 2).due("told(2, 0)", 3).due("told(2, 1)", 3)
        .due("taught(2, 7, 0)", 400).refused(-1, "told(3, 0)");
    teachMany(sentence("8: later ones get the number one less: one between"), 4).due("forget(2)", 2)
        .due("told(1, 0)", 1).due("told(2, 0)", 3).due("told(2, 1)", 3).due("taught(2, 7, 0)", 400);
    teachMany(sentence("8: later ones get the number one less: the last has none"), 4).due("forget(3)", 3)
        .due("told(2, 0)", 2).refused(-1, "told(3, 0)").refused(1000000, "taught(3, 0, 0)");
    teachMany(sentence("8: the only one"), 1).due("forget(0)", 0).due("count(1)", 0).refused(-4, "nearest()");
    teachMany(sentence("8: the last of sixteen"), MOST).due("forget(15)", 5).due("count(1)", 15)
        .refused(-1, "told(15, 0)").due("told(14, 0)", 4);
    teachMany(sentence("8: the first of sixteen"), MOST).due("forget(0)", 0).due("told(14, 0)", 5)
        .due("told(14, 1)", 0).refused(-1, "told(15, 0)", "forget(15)");
  }

  private static void forgetRefused() {
    sentence("8: BAD: there is none").refused(-1, "forget(0)").due("count(4)", 0);
    teachMany(sentence("8: BAD"), 3).refused(-1, "forget(-1)", "forget(3)", "forget(16)")
        .refusedFarBeyond(-1, "forget(#)").due("count(1)", 3).due("count(4)", 3).due("forget(2)", 2)
        .refused(-1, "forget(2)");
  }

  private static void undo() {
    sentence("9: NONE: at first").refused(-4, "undo()", "undo()").due("count(4)", 0);
    teachMany(sentence("9: NONE: all are undone"), 1).due("undo()", 0).refused(-4, "undo()").due("count(1)", 0);
    teachMany(sentence("9: how many more can be"), 3).due("count(4)", 3).due("undo()", 2).due("count(4)", 2)
        .due("undo()", 1).due("undo()", 0).refused(-4, "undo()");
    teachMany(sentence("9: teach() is undone"), 2).due("undo()", 1).due("count(1)", 1).due("told(0, 0)", 0)
        .refused(-1, "told(1, 0)").due("count(0)", 2).due("teach(7, 1)", 1).due("taught(1, 7, 0)", 200);
    teachMany(sentence("9: label() is undone"), 2).does("label(1, 9)").due("undo()", 2).due("told(1, 0)", 1)
        .due("told(0, 0)", 0).due("count(1)", 2);
    teachMany(sentence("9: label() is undone as often as it was called"), 2).does("label(1, 9)", "label(1, 8)")
        .due("undo()", 3).due("told(1, 0)", 9).due("undo()", 2).due("told(1, 0)", 1);
    sentence("9: teach(), forget(), label() alone").draw(0, 0, 1, 0).does("teach(1, 0)", "ends(5, 5)", "mark()",
        "command(0, 0, 1, 1, 0, 0, 0)", "sheet(0, 0, 1)", "lay(0, 0, 1)", "wipe()", "clear()")
        .due("count(4)", 1).due("undo()", 0).due("count(1)", 0).due("count(2)", 1).due("lay(0, 0, 1)", 1);
    sentence("9: what was undone is not done again").draw(0, 0, 1, 0).does("teach(1, 0)", "label(0, 2)", "undo()")
        .due("told(0, 0)", 1).due("undo()", 0).due("count(1)", 0).refused(-4, "undo()");
  }

  private static void undoOfTheLatestSix() {
    Told six = teachMany(sentence("9: (of the latest 6): six"), 6).due("count(4)", 6);
    undoAll(six, 5).due("count(1)", 0).refused(-4, "undo()");
    Told seven = teachMany(sentence("9: (of the latest 6): of seven the first stands"), 7).due("count(4)", 6);
    undoAll(seven, 5).due("count(1)", 1).refused(-4, "undo()").due("told(0, 0)", 0);
    Told thirteen = teachMany(sentence("9: (of the latest 6): of thirteen the first seven stand"), 13);
    undoAll(thirteen, 5).due("count(1)", 7).refused(-4, "undo()");
    // A new act after an undone one: those gone for good do not come back.
    Told again = teachMany(sentence("9: (of the latest 6): undone and acted again"), 8).due("undo()", 5)
        .due("undo()", 4).does("label(0, 9)").due("count(4)", 5).does("label(0, 8)").due("count(4)", 6)
        .does("label(0, 7)").due("count(4)", 6);
    undoAll(again, 5).due("count(1)", 3).due("told(0, 0)", 0).refused(-4, "undo()");
    Told labels = teachMany(sentence("9: (of the latest 6): labels"), 1);
    for (int v = 1; v <= 9; v++) {
      labels.due("label(0, " + v + ")", v - 1);
    }
    undoAll(labels, 5).due("told(0, 0)", 3).refused(-4, "undo()");
  }

  /** Undone until none is left, the first answering more. */
  private static Told undoAll(Told x, int more) {
    for (int left = more; left >= 0; left--) {
      x.due("undo()", left);
    }
    return x;
  }

  private static void undoWithoutRefused() {
    teachMany(sentence("9: that was not refused: teach()"), 2).does("teach(10, 0)", "teach(0, 5)", "clear()",
        "teach(0, 0)").due("count(4)", 2).due("undo()", 1).due("count(1)", 1);
    teachMany(sentence("9: that was not refused: teach() when full"), MOST).does("teach(0, 0)")
        .due("count(4)", 6).due("undo()", 5).due("count(1)", 15);
    teachMany(sentence("9: that was not refused: forget()"), 2).does("forget(2)", "forget(-1)")
        .due("count(4)", 2).due("undo()", 1).due("count(1)", 1);
    teachMany(sentence("9: that was not refused: label()"), 2).does("label(2, 0)", "label(0, 10)", "label(0, -1)")
        .due("count(4)", 2).due("undo()", 1).due("count(1)", 1).due("told(0, 0)", 0);
    teachMany(sentence("9: that was not refused: a refused one takes no place of the 6"), 6)
        .does("teach(10, 0)", "forget(6)", "label(6, 0)").due("undo()", 5).due("undo()", 4).due("undo()", 3)
        .due("undo()", 2).due("undo()", 1).due("undo()", 0).due("count(1)", 0);
  }

  private static void undoOfForgotten() {
    teachMany(sentence("9: forget() is undone: the first"), 3).does("forget(0)").due("undo()", 3)
        .due("count(1)", 3).due("told(0, 0)", 0).due("told(1, 0)", 1).due("told(2, 0)", 2)
        .due("taught(0, 7, 0)", 100).due("taught(1, 7, 0)", 200).due("taught(2, 7, 0)", 300);
    teachMany(sentence("9: forget() is undone: the last"), 3).does("forget(2)").due("undo()", 3)
        .due("told(2, 0)", 2).due("told(2, 1)", 2).due("taught(2, 7, 0)", 300);
    teachMany(sentence("9: forget() is undone: the only one"), 1).does("forget(0)").due("undo()", 1)
        .due("told(0, 0)", 0).due("taught(0, 7, 0)", 100).due("undo()", 0).due("count(1)", 0);
    teachMany(sentence("9: forget() is undone: of sixteen"), MOST).does("forget(0)").due("undo()", 5)
        .due("count(1)", MOST).due("told(15, 0)", 5).due("told(0, 0)", 0).refused(-3, "teach(0, 0)");
    teachMany(sentence("9: forget() is undone: with the LABEL that it had then"), 2).does("label(0, 8)",
        "forget(0)").due("undo()", 3).due("told(0, 0)", 8).due("undo()", 2).due("told(0, 0)", 0);
    // Six forgotten ones, each with its own points.
    Told six = teachMany(sentence("9: forget() is undone: six"), 6).does("forget(5)", "forget(0)", "forget(2)",
        "forget(0)", "forget(1)", "forget(0)").due("count(1)", 0).due("count(4)", 6);
    undoAll(six, 5).due("count(1)", 6);
    for (int k = 0; k < 6; k++) {
      six.due("told(" + k + ", 0)", k).due("told(" + k + ", 1)", k % 5).due("taught(" + k + ", 7, 0)", 100 * (k + 1));
    }
  }

  private static void label() {
    teachMany(sentence("10: becomes another one: what it was"), 3).due("label(1, 9)", 1).due("label(1, 0)", 9)
        .due("told(1, 0)", 0).due("told(1, 1)", 1).due("told(0, 0)", 0).due("told(2, 0)", 2);
    teachMany(sentence("10: the same once more is taken as any"), 2).due("label(1, 1)", 1).due("told(1, 0)", 1)
        .due("count(4)", 3).due("undo()", 2).due("told(1, 0)", 1).due("count(1)", 2);
    sentence("10: BAD: there is none").refused(-1, "label(0, 0)").due("count(4)", 0);
    teachMany(sentence("10: BAD: k"), 3).refused(-1, "label(-1, 5)", "label(3, 5)", "label(16, 5)")
        .refusedFarBeyond(-1, "label(#, 5)").due("count(4)", 3).due("told(2, 0)", 2);
    teachMany(sentence("10: BAD: v"), 3).refused(-1, "label(0, -1)", "label(2, 10)")
        .refusedFarBeyond(-1, "label(1, #)").due("count(4)", 3).due("told(0, 0)", 0).due("told(1, 0)", 1);
  }

  private static void told() {
    sentence("11: BAD: there is none").refused(-1, "told(0, 0)", "told(0, 1)");
    teachMany(sentence("11: BAD: k"), 2).due("told(1, 1)", 1).refused(-1, "told(-1, 0)", "told(2, 0)", "told(2, 1)")
        .refusedFarBeyond(-1, "told(#, 0)");
    teachMany(sentence("11: BAD: what"), 2).refused(-1, "told(0, -1)", "told(1, 2)").refusedFarBeyond(-1, "told(0, #)");
  }

  private static void taught() {
    sentence("12: there is none such: nothing is TAUGHT").refused(1000000, "taught(0, 0, 0)");
    teachMany(sentence("12: there is none such: k"), 2).due("taught(1, 7, 1)", 1000)
        .refused(1000000, "taught(-1, 0, 0)", "taught(2, 0, 0)", "taught(16, 7, 1)")
        .refusedFarBeyond(1000000, "taught(#, 0, 0)");
    teachMany(sentence("12: there is none such: i"), 2).refused(1000000, "taught(0, -1, 0)", "taught(0, 8, 0)",
        "taught(1, 8, 1)").refusedFarBeyond(1000000, "taught(0, #, 0)");
    teachMany(sentence("12: there is none such: what"), 2).refused(1000000, "taught(0, 0, -1)", "taught(0, 0, 2)",
        "taught(0, 7, 2)").refusedFarBeyond(1000000, "taught(0, 0, #)");
    teachMany(sentence("12: there is none such: it is forgotten"), 2).does("forget(0)")
        .refused(1000000, "taught(1, 0, 0)").due("taught(0, 7, 0)", 200);
  }
}
