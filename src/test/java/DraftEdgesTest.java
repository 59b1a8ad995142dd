/** The boundary cases of 'Terms', part 1, and of promises 1 to 6: each sentence has a test of its own. */
final class DraftEdgesTest {
  private static final Check CHECK = new Check("DraftEdgesTest");

  private static Told sentence(String words) {
    return new Told(CHECK, words);
  }

  public static void main(String[] args) {
    atMost512Calls();
    numbersOfPoints();
    boundsOfPoints();
    ways();
    evenPoints();
    evenPointsDividedDown();
    normalPoints();
    newObject();
    point();
    clear();
    way();
    even();
    normal();
    CHECK.finish();
  }

  private static void atMost512Calls() {
    Told x = sentence("An object is used for at most 512 calls").due("point(0, 0, false)", 1);
    for (int n = 0; n < 509; n++) {
      x.due("way()", 0);
    }
    x.due("point(3, 4, false)", 2).due("way()", 7);
  }

  // ---- Terms, 1

  private static void numbersOfPoints() {
    sentence("A MARK: 2 to 30 POINTS: none is no mark")
        .refused(-2, "teach(0, 0)").due("point(9, 9, false)", 1);
    sentence("A MARK: 2 to 30 POINTS: one is no mark")
        .due("point(9, 9, false)", 1).refused(-2, "teach(0, 0)").due("count(1)", 0);
    sentence("A MARK: 2 to 30 POINTS: two are one")
        .does("point(9, 9, false)").due("point(9, 8, false)", 2).due("teach(0, 0)", 0);
    thirty(sentence("A MARK: 2 to 30 POINTS: thirty are one")).due("teach(1, 0)", 0).due("read()", 1)
        .due("mark()", 1).due("count(0)", 0).due("line(0)", 1);
    thirty(sentence("A MARK: 2 to 30 POINTS: there is no 31st")).refused(-3, "point(0, 0, false)")
        .due("count(0)", 30).due("clear()", 30).due("point(0, 0, false)", 1);
  }

  /** Points from (-100, 100) on, 29 apart in all. */
  private static Told thirty(Told x) {
    for (int n = 1; n <= 30; n++) {
      x.due("point(" + (n - 101) + ", 100, false)", n);
    }
    return x;
  }

  private static void boundsOfPoints() {
    sentence("x, y, -100 to 100 each: all four ends").due("point(-100, -100, false)", 1)
        .due("point(-100, 100, false)", 2).due("point(100, 100, false)", 3).due("point(100, -100, false)", 4)
        .due("way()", 600).due("even(0, 0)", -10000).due("even(0, 1)", -10000)
        .due("even(7, 0)", 10000).due("even(7, 1)", -10000);
  }

  private static void ways() {
    sentence("a POINT may be LIFTED to: nothing is drawn between the one ahead and it")
        .due("point(0, 0, false)", 1).due("point(9, 9, true)", 2).due("way()", 0)
        .due("point(9, 5, false)", 3).due("way()", 4);
    sentence("the sum of both differences without their signs")
        .draw(50, -50, -50, 50).due("way()", 200).draw(-50, 50, 50, -50).due("way()", 200)
        .draw(50, 50, 49, -50).due("way()", 101);
  }

  private static void evenPoints() {
    sentence("i times the WAY by 7 has been drawn: i 0 is where it begins")
        .draw(3, 4, 10, 4, 10, 11).due("even(0, 0)", 300).due("even(0, 1)", 400);
    sentence("i times the WAY by 7 has been drawn: i 7 is where it ends")
        .draw(3, 4, 10, 4, 10, 11).due("even(7, 0)", 1000).due("even(7, 1)", 1100);
    sentence("Q not LIFTED to: at the beginning").does("point(-90, 0, false)", "point(5, 5, true)",
        "point(12, 5, false)").due("even(0, 0)", 500).due("even(0, 1)", 500).due("even(1, 0)", 600);
    sentence("Q not LIFTED to: at the end").does("point(5, 5, false)", "point(12, 5, false)",
        "point(90, 90, true)").due("even(7, 0)", 1200).due("even(7, 1)", 500);
    sentence("Q not LIFTED to: between").does("point(0, 0, false)", "point(4, 0, false)",
        "point(50, 50, true)", "point(53, 50, false)").due("even(4, 0)", 400).due("even(5, 0)", 5100)
        .due("even(5, 1)", 5000).due("even(6, 0)", 5200);
    sentence("s is how far they are (above 0): at one place at the beginning")
        .draw(5, 5, 5, 5, 5, 12).due("even(0, 1)", 500).due("even(1, 1)", 600);
    sentence("s is how far they are (above 0): at one place at the end")
        .draw(5, 5, 5, 12, 5, 12, 5, 12).due("even(6, 1)", 1100).due("even(7, 1)", 1200);
    sentence("s is how far they are (above 0): at one place between")
        .draw(0, 0, 3, 0, 3, 0, 7, 0).due("even(3, 0)", 300).due("even(4, 0)", 400);
    // The second two would begin at (10, 10): only those first drawn end at 300.
    sentence("the first two with i times the WAY at most 7 (t + s): just reached").does("point(0, 0, false)",
        "point(3, 0, false)", "point(10, 10, true)", "point(10, 6, false)")
        .due("even(3, 0)", 300).due("even(3, 1)", 0).due("even(4, 0)", 1000).due("even(4, 1)", 900);
    sentence("the first two with i times the WAY at most 7 (t + s): just not reached").does("point(0, 0, false)",
        "point(3, 0, false)", "point(10, 10, true)", "point(10, 5, false)")
        .due("way()", 8).due("even(2, 0)", 228).due("even(3, 0)", 1000).due("even(3, 1)", 957);
    for (String points : new String[] {"", "one", "one place", "lifts"}) {
      Told x = sentence("(A WAY of 0 has none.): " + points);
      noWay(x, points).due("way()", 0);
      for (int i = 0; i < 8; i++) {
        x.dueAll(1000000, "even(" + i + ", 0)", "even(" + i + ", 1)");
      }
      x.refused(1000000, "even(0, 0)", "even(7, 1)");
    }
  }

  private static Told noWay(Told x, String points) {
    switch (points) {
      case "one":
        return x.does("point(1, 2, false)");
      case "one place":
        return x.does("point(1, 2, false)", "point(1, 2, false)", "point(1, 2, false)");
      case "lifts":
        return x.does("point(1, 2, false)", "point(8, 2, true)", "point(8, -9, true)");
      default:
        return x;
    }
  }

  private static void evenPointsDividedDown() {
    sentence("divided down by 7 s: to the right").draw(0, 0, 1, 0).due("even(1, 0)", 14).due("even(6, 0)", 85);
    sentence("divided down by 7 s: to the left, to the next whole number below")
        .draw(0, 0, -1, 0).due("even(1, 0)", -15).due("even(6, 0)", -86).due("even(7, 0)", -100);
    sentence("divided down by 7 s (or that itself)")
        .draw(0, 0, 0, -7).due("even(1, 1)", -100).due("even(6, 1)", -600);
    // 100 times P is no part of what is divided: -1 + 1/7 in hundredths is -86, not -85.
    sentence("100 times P, and the difference divided down").draw(-1, 0, 0, 0)
        .due("even(1, 0)", -86).due("even(6, 0)", -15);
    sentence("the longest way: 29 times 400").does(zigzag()).due("way()", 11600)
        .due("even(0, 0)", -10000).due("even(7, 0)", 10000).due("even(3, 1)", -1429)
        .due("normal(7, 0)", 1000).due("normal(0, 1)", -1000);
  }

  private static String[] zigzag() {
    String[] calls = new String[30];
    for (int n = 0; n < 30; n++) {
      calls[n] = n % 2 == 0 ? "point(-100, -100, false)" : "point(100, 100, false)";
    }
    return calls;
  }

  private static void normalPoints() {
    // Even x: 0, -143, -286, -429, -429, -286, -143, 0.
    sentence("the least and the greatest together, divided down by 2: below 0 and odd")
        .draw(0, 0, -5, 0, 0, 0).due("even(3, 0)", -429).due("normal(0, 0)", 1000).due("normal(3, 0)", -996);
    sentence("the least and the greatest together, divided down by 2: above 0 and odd")
        .draw(0, 0, 5, 0, 0, 0).due("even(3, 0)", 428).due("normal(0, 0)", -1000).due("normal(3, 0)", 1000);
    sentence("the least and the greatest together, divided down by 2: of y alike")
        .draw(0, 0, 0, -5, 0, 0).due("even(3, 1)", -429).due("normal(0, 1)", 1000).due("normal(3, 1)", -996);
    sentence("divided down by the greatest size: below 0 to the next whole number below")
        .draw(0, 0, 7, 0).due("normal(1, 0)", -715).due("normal(6, 0)", 714);
    sentence("the greatest size (without sign) of all x and y: of y")
        .draw(0, 0, 3, 0, 3, 4).due("normal(0, 0)", -750).due("normal(0, 1)", -1000);
    sentence("the greatest size (without sign) of all x and y: of x")
        .draw(0, 0, 0, 3, 4, 3).due("normal(0, 0)", -1000).due("normal(0, 1)", -750);
    // Even x: 0 at first alone, -829 at most: the middle is -415, so that 0 is the greatest size away.
    sentence("the greatest size (without sign): at the first POINT alone").draw(0, 0, -9, 0, -1, 0)
        .due("even(4, 0)", -829).due("normal(0, 0)", 1000).due("normal(4, 0)", -998);
    sentence("0: all are 0").does(toAndFro()).due("way()", 14).due("even(5, 0)", 0)
        .dueAll(0, "normal(0, 0)", "normal(1, 1)", "normal(7, 0)", "normal(7, 1)")
        .due("teach(4, 4)", 0).dueAll(0, "taught(0, 0, 0)", "taught(0, 7, 1)", "distance(0)");
  }

  /** Every even point lies where the way begins. */
  private static String[] toAndFro() {
    String[] calls = new String[15];
    for (int n = 0; n < 15; n++) {
      calls[n] = "point(" + n % 2 + ", 50, false)";
    }
    return calls;
  }

  // ---- promises

  private static void newObject() {
    sentence("1: An empty DRAFT").due("count(0)", 0).due("way()", 0).due("clear()", 0);
    sentence("1: nothing TAUGHT").due("count(1)", 0).refused(-1, "told(0, 0)", "forget(0)", "label(0, 0)")
        .refused(1000000, "taught(0, 0, 0)").draw(0, 0, 1, 0).refused(-4, "nearest()").due("teach(0, 0)", 0);
    sentence("1: nothing to undo").due("count(4)", 0).refused(-4, "undo()").due("count(4)", 0);
    sentence("1: no COMMANDS").due("count(2)", 0).due("parse(0)", 0).refused(-4, "hidden()", "found(0, 0, 0)")
        .due("command(0, 0, 1, 0, 0, 0, 0)", 0);
    sentence("1: an empty LINE").due("count(3)", 0).refused(-1, "line(0)").due("wipe()", 0);
    for (int k = 0; k <= 3; k++) {
      sentence("1: SHEETS of nothing").refused(-11, "lay(" + k + ", 0, 0)", "scan(" + k + ", 0, 0, 0)",
          "scan(" + k + ", 1, 0, 0)", "scan(" + k + ", 2, 0, 1)").due("count(0)", 0);
    }
  }

  private static void point() {
    sentence("2: the first is never LIFTED to: in a new object")
        .due("point(0, 0, true)", 1).due("point(5, 0, false)", 2).due("way()", 5).due("even(7, 0)", 500);
    sentence("2: the first is never LIFTED to: after clear()").draw(1, 1, 2, 2).due("clear()", 2)
        .due("point(0, 0, true)", 1).due("point(5, 0, false)", 2).due("way()", 5);
    sentence("2: the first is never LIFTED to: after mark()").draw(1, 1, 2, 2).does("teach(1, 0)")
        .due("mark()", 1).due("point(0, 0, true)", 1).due("point(5, 0, false)", 2).due("way()", 5);
    sentence("2: the first is never LIFTED to: after refused ones").refused(-1, "point(101, 0, true)")
        .due("point(0, 0, true)", 1).due("point(5, 0, false)", 2).due("way()", 5);
    sentence("2: a later one is, once more").draw(0, 0, 1, 0).due("point(9, 9, true)", 3).due("way()", 1);
    // The place of a point that is lifted to is not lifted to for good.
    sentence("2: a new one in its place is not").does("point(0, 0, false)", "point(9, 9, true)", "clear()",
        "point(0, 0, false)").due("point(9, 9, false)", 2).due("way()", 18);
    sentence("2: how many").due("point(0, 0, false)", 1).due("point(0, 0, false)", 2).due("point(0, 0, true)", 3);
    for (String beyond : new String[] {"-101, 0", "101, 0", "0, -101", "0, 101", "101, 101"}) {
      sentence("2: BAD").draw(0, 0, 3, 0).refused(-1, "point(" + beyond + ", false)", "point(" + beyond + ", true)")
          .due("count(0)", 2).due("way()", 3).due("point(3, 1, false)", 3).due("way()", 4);
    }
    sentence("2: BAD, far beyond").draw(0, 0, 3, 0).refusedFarBeyond(-1, "point(#, 0, false)")
        .refusedFarBeyond(-1, "point(0, #, true)").refusedFarBeyond(-1, "point(#, #, false)").due("count(0)", 2);
    thirty(sentence("2: FULL")).refused(-3, "point(0, 0, false)", "point(0, 0, true)", "point(100, -100, false)")
        .due("way()", 29).due("even(7, 0)", -7100);
    thirty(sentence("2: BAD; FULL: the first that fits")).refused(-1, "point(101, 0, false)", "point(0, -101, true)");
  }

  private static void clear() {
    sentence("3: how many there were: none").due("clear()", 0).due("clear()", 0);
    sentence("3: how many there were: one").does("point(1, 1, false)").due("clear()", 1).due("clear()", 0);
    thirty(sentence("3: how many there were: thirty")).due("clear()", 30).due("count(0)", 0);
    sentence("3: THE DRAFT is emptied, and nothing else").draw(0, 0, 3, 0).does("teach(4, 2)", "mark()")
        .draw(0, 0, 3, 0).due("clear()", 2).due("count(0)", 0).due("way()", 0).due("even(0, 0)", 1000000)
        .due("normal(0, 0)", 1000000).due("count(1)", 1).due("count(3)", 1).due("count(4)", 1)
        .refused(-2, "read()");
  }

  private static void way() {
    sentence("4: of none").due("way()", 0);
    sentence("4: of one").does("point(-100, 100, false)").due("way()", 0);
    sentence("4: of a lift alone").does("point(-100, 100, false)", "point(100, -100, true)").due("way()", 0);
    sentence("4: of two").draw(-100, 100, 100, -100).due("way()", 400);
  }

  private static void even() {
    sentence("5: there is none such: i").draw(0, 0, 7, 7).due("even(0, 0)", 0).due("even(7, 1)", 700)
        .refused(1000000, "even(-1, 0)", "even(8, 0)", "even(-1, 1)", "even(8, 1)")
        .refusedFarBeyond(1000000, "even(#, 0)");
    sentence("5: there is none such: what").draw(0, 0, 7, 7)
        .refused(1000000, "even(0, -1)", "even(0, 2)", "even(7, 2)").refusedFarBeyond(1000000, "even(1, #)");
    sentence("5: its WAY is 0, and no more when it is drawn").does("point(0, 0, false)")
        .refused(1000000, "even(0, 0)").does("point(0, 7, false)").due("even(1, 1)", 100)
        .does("clear()").refused(1000000, "even(1, 1)");
  }

  private static void normal() {
    sentence("6: there is none such: i").draw(0, 0, 7, 7).due("normal(0, 0)", -1000).due("normal(7, 1)", 1000)
        .refused(1000000, "normal(-1, 0)", "normal(8, 0)", "normal(-1, 1)", "normal(8, 1)")
        .refusedFarBeyond(1000000, "normal(#, 0)");
    sentence("6: there is none such: what").draw(0, 0, 7, 7)
        .refused(1000000, "normal(0, -1)", "normal(0, 2)", "normal(7, 2)")
        .refusedFarBeyond(1000000, "normal(1, #)");
    for (String points : new String[] {"", "one", "one place", "lifts"}) {
      noWay(sentence("6: its WAY is 0: " + points), points)
          .refused(1000000, "normal(0, 0)", "normal(7, 1)").due("normal(3, 0)", 1000000);
    }
  }
}
