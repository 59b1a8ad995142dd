/** Promises 20 to 25: command, parse, found, hidden, line, wipe. */
final class CommandsTest {
  private static final Check CHECK = new Check("CommandsTest");

  private static void due(String call, long got, long want) {
    CHECK.due(call, got, want);
  }

  public static void main(String[] args) {
    command();
    commandRefused();
    commandFull();
    parse();
    parseByContext();
    parseGoesOnBehind();
    parseRefused();
    found();
    foundOfForty();
    hidden();
    hiddenByContext();
    line();
    wipe();
    CHECK.finish();
  }

  /** A book whose line has these labels: the mark of label v is drawn to (v + 1, 10). */
  private static StrokeBook bookWithLine(int... labels) {
    StrokeBook x = new StrokeBook();
    for (int v = 0; v < 10; v++) {
      Check.draw(x, 0, 0, v + 1, 10);
      x.teach(v, 0);
    }
    write(x, labels);
    return x;
  }

  private static void write(StrokeBook x, int... labels) {
    for (int v : labels) {
      Check.draw(x, 0, 0, v + 1, 10);
      due("17: mark of " + v, x.mark(), v);
    }
  }

  private static int add(StrokeBook x, int context, int rank, int... labels) {
    int n = labels.length;
    return x.command(context, rank, n, labels[0], n > 1 ? labels[1] : 0,
        n > 2 ? labels[2] : 0, n > 3 ? labels[3] : 0);
  }

  private static void dueFound(StrokeBook x, int context, int... numbersAndPlaces) {
    int many = numbersAndPlaces.length / 2;
    due("21: parse(" + context + ")", x.parse(context), many);
    for (int i = 0; i < many; i++) {
      due("22: number of " + i, x.found(context, i, 0), numbersAndPlaces[2 * i]);
      due("22: place of " + i, x.found(context, i, 1), numbersAndPlaces[2 * i + 1]);
    }
    due("22: no more", x.found(context, many, 0), -4);
  }

  private static void command() {
    StrokeBook x = new StrokeBook();
    due("20: one label", x.command(0, 0, 1, 0, 0, 0, 0), 0);
    due("20: four, the greatest", x.command(3, 9, 4, 9, 9, 9, 9), 1);
    due("20: the same again", x.command(3, 9, 4, 9, 9, 9, 9), 2);
    due("20: two", x.command(1, 5, 2, 1, 2, 0, 0), 3);
    due("20: three", x.command(1, 5, 3, 1, 2, 3, 0), 4);
    due("20: count(2)", x.count(2), 5);
    due("20: not to be undone", x.count(4), 0);
  }

  private static void commandRefused() {
    StrokeBook x = new StrokeBook();
    due("20: context -1", x.command(-1, 0, 1, 1, 0, 0, 0), -1);
    due("20: context 4", x.command(4, 0, 1, 1, 0, 0, 0), -1);
    due("20: rank -1", x.command(0, -1, 1, 1, 0, 0, 0), -1);
    due("20: rank 10", x.command(0, 10, 1, 1, 0, 0, 0), -1);
    due("20: n 0", x.command(0, 0, 0, 0, 0, 0, 0), -1);
    due("20: n 5", x.command(0, 0, 5, 1, 1, 1, 1), -1);
    due("20: a -1", x.command(0, 0, 1, -1, 0, 0, 0), -1);
    due("20: a 10", x.command(0, 0, 1, 10, 0, 0, 0), -1);
    due("20: b -1", x.command(0, 0, 2, 1, -1, 0, 0), -1);
    due("20: b 10", x.command(0, 0, 2, 1, 10, 0, 0), -1);
    due("20: c -1", x.command(0, 0, 3, 1, 1, -1, 0), -1);
    due("20: c 10", x.command(0, 0, 3, 1, 1, 10, 0), -1);
    due("20: d -1", x.command(0, 0, 4, 1, 1, 1, -1), -1);
    due("20: d 10", x.command(0, 0, 4, 1, 1, 1, 10), -1);
    due("20: b beyond n", x.command(0, 0, 1, 1, 1, 0, 0), -1);
    due("20: c beyond n", x.command(0, 0, 2, 1, 1, 1, 0), -1);
    due("20: d beyond n", x.command(0, 0, 3, 1, 1, 1, 1), -1);
    due("20: c beyond n, below", x.command(0, 0, 1, 1, 0, -1, 0), -1);
    for (int v : Check.extremes()) {
      due("20: context " + v, x.command(v, 0, 1, 1, 0, 0, 0), -1);
      due("20: rank " + v, x.command(0, v, 1, 1, 0, 0, 0), -1);
      due("20: n " + v, x.command(0, 0, v, 1, 0, 0, 0), -1);
      due("20: a " + v, x.command(0, 0, 1, v, 0, 0, 0), -1);
      due("20: d " + v, x.command(0, 0, 4, 1, 1, 1, v), -1);
    }
    due("20: none came", x.count(2), 0);
  }

  private static void commandFull() {
    StrokeBook x = new StrokeBook();
    for (int k = 0; k < 10; k++) {
      due("20: number " + k, x.command(0, 0, 1, k, 0, 0, 0), k);
    }
    due("20: the 11th", x.command(0, 0, 1, 1, 0, 0, 0), -3);
    due("20: bad goes ahead of full", x.command(0, 0, 1, 10, 0, 0, 0), -1);
    due("20: ten", x.count(2), 10);
    due("23: of ten", x.hidden(), -4);
    due("21: of ten", x.parse(0), 0);
  }

  private static void parse() {
    StrokeBook x = bookWithLine(1, 2, 3, 1, 2, 9, 1);
    dueFound(x, 0);
    add(x, 0, 9, 1);
    add(x, 0, 0, 1, 2);
    dueFound(x, 0, 1, 0, 1, 3, 0, 6);
    // The most labels go ahead of the greatest rank, the greatest rank of the least number.
    add(x, 0, 1, 1, 2);
    dueFound(x, 0, 2, 0, 2, 3, 0, 6);
    add(x, 0, 1, 1, 2);
    dueFound(x, 0, 2, 0, 2, 3, 0, 6);
    add(x, 0, 0, 1, 2, 3, 1);
    dueFound(x, 0, 4, 0, 0, 6);
    due("21: the line stays", x.count(3), 7);
  }

  private static void parseByContext() {
    StrokeBook x = bookWithLine(4, 4, 5);
    add(x, 1, 0, 4, 4);
    add(x, 2, 0, 4);
    add(x, 0, 0, 5);
    add(x, 0, 0, 4, 5);
    dueFound(x, 0, 3, 1);
    dueFound(x, 1, 0, 0, 2, 2);
    dueFound(x, 2, 1, 0, 3, 1);
    dueFound(x, 3, 3, 1);
  }

  private static void parseGoesOnBehind() {
    // A command that would go beyond the line's end does not stand there.
    StrokeBook x = bookWithLine(0, 0, 0, 0, 0);
    add(x, 0, 0, 0, 0);
    add(x, 0, 0, 0, 0, 0, 0);
    dueFound(x, 0, 1, 0);
    write(x, 0);
    dueFound(x, 0, 1, 0, 0, 4);
    // What stood on the line before it was wiped is gone.
    x.wipe();
    dueFound(x, 0);
    write(x, 0);
    dueFound(x, 0);
  }

  private static void parseRefused() {
    StrokeBook x = new StrokeBook();
    due("21: nothing", x.parse(0), 0);
    due("21: greatest", x.parse(3), 0);
    due("21: -1", x.parse(-1), -1);
    due("21: 4", x.parse(4), -1);
    for (int v : Check.extremes()) {
      due("21: " + v, x.parse(v), -1);
    }
  }

  private static void found() {
    StrokeBook x = bookWithLine(8, 7);
    add(x, 3, 0, 7);
    due("22: number", x.found(3, 0, 0), 0);
    due("22: place", x.found(3, 0, 1), 1);
    due("22: no second", x.found(3, 1, 0), -4);
    due("22: none in another context", x.found(1, 0, 0), -4);
    due("22: context -1", x.found(-1, 0, 0), -1);
    due("22: context 4", x.found(4, 0, 0), -1);
    due("22: i -1", x.found(3, -1, 0), -1);
    due("22: what -1", x.found(3, 0, -1), -1);
    due("22: what 2", x.found(3, 0, 2), -1);
    due("22: bad goes ahead of none", x.found(1, 0, 2), -1);
    due("22: bad goes ahead of none", x.found(3, 40, -1), -1);
    for (int v : Check.extremes()) {
      due("22: context " + v, x.found(v, 0, 0), -1);
      due("22: i " + v, x.found(3, v, 0), v < 0 ? -1 : -4);
      due("22: what " + v, x.found(3, 0, v), -1);
    }
  }

  private static void foundOfForty() {
    StrokeBook x = new StrokeBook();
    Check.draw(x, 0, 0, 1, 0);
    x.teach(5, 0);
    for (int n = 0; n < 40; n++) {
      Check.draw(x, 0, 0, 1, 0);
      x.mark();
    }
    add(x, 2, 0, 5);
    due("21: forty", x.parse(2), 40);
    due("22: the last", x.found(2, 39, 1), 39);
    due("22: no more", x.found(2, 40, 1), -4);
    add(x, 2, 0, 5, 5, 5);
    due("21: thirteen and one", x.parse(2), 14);
    due("22: the last of one", x.found(2, 13, 0), 0);
    due("22: its place", x.found(2, 13, 1), 39);
  }

  private static void hidden() {
    StrokeBook x = new StrokeBook();
    due("23: none", x.hidden(), -4);
    add(x, 1, 5, 1, 2);
    due("23: one is not hidden by itself", x.hidden(), -4);
    add(x, 1, 5, 1, 3);
    add(x, 1, 9, 1);
    add(x, 1, 9, 1, 2, 0);
    due("23: other labels", x.hidden(), -4);
    add(x, 1, 5, 1, 3);
    due("23: the same rank, a less number", x.hidden(), 4);
    add(x, 1, 6, 1, 2);
    due("23: a greater rank, a greater number", x.hidden(), 0);
    StrokeBook first = new StrokeBook();
    add(first, 0, 5, 1, 2);
    add(first, 0, 5, 3, 2);
    due("23: the first label is another", first.hidden(), -4);
    add(first, 0, 5, 1, 2, 3, 4);
    add(first, 0, 5, 1, 2, 3, 5);
    due("23: the last label is another", first.hidden(), -4);
    add(first, 0, 4, 1, 2, 3, 4);
    add(first, 0, 9, 6);
    due("23: four labels", first.hidden(), 4);
    StrokeBook zeros = new StrokeBook();
    add(zeros, 0, 9, 0, 0);
    add(zeros, 0, 0, 0);
    add(zeros, 0, 0, 0, 0, 0);
    due("23: labels 0 are labels", zeros.hidden(), -4);
    add(zeros, 0, 8, 0, 0);
    due("23: a less rank", zeros.hidden(), 3);
  }

  private static void hiddenByContext() {
    StrokeBook x = new StrokeBook();
    add(x, 2, 9, 1);
    add(x, 1, 5, 1);
    add(x, 0, 5, 1);
    due("23: one of context 0 is hidden by none of 1 or 2", x.hidden(), -4);
    add(x, 0, 6, 1);
    due("23: by one of context 0", x.hidden(), 1);
    StrokeBook y = new StrokeBook();
    add(y, 3, 1, 7);
    add(y, 0, 1, 7);
    due("23: the same rank, a greater number", y.hidden(), -4);
    add(y, 3, 1, 7);
    due("23: in the same context", y.hidden(), 2);
  }

  private static void line() {
    StrokeBook x = bookWithLine(3, 0, 9);
    due("24: first", x.line(0), 3);
    due("24: second", x.line(1), 0);
    due("24: third", x.line(2), 9);
    due("24: -1", x.line(-1), -1);
    due("24: 3", x.line(3), -1);
    for (int v : Check.extremes()) {
      due("24: " + v, x.line(v), -1);
    }
    x.label(3, 4);
    x.forget(0);
    due("24: labels once read stay", x.line(0), 3);
    due("24: of an empty one", new StrokeBook().line(0), -1);
  }

  private static void wipe() {
    StrokeBook x = bookWithLine(3, 0, 9);
    Check.draw(x, 0, 0, 1, 1);
    add(x, 0, 0, 3);
    due("25: three", x.wipe(), 3);
    due("25: none", x.wipe(), 0);
    due("25: count(3)", x.count(3), 0);
    due("25: line(0)", x.line(0), -1);
    due("25: commands stay", x.count(2), 1);
    due("25: the draft stays", x.count(0), 2);
    due("25: what is taught stays", x.count(1), 10);
  }
}
