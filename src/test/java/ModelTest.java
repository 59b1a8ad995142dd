import java.util.Random;

/** Random runs of calls, the same each time: every answer is held against SlowBook's. */
final class ModelTest {
  private static final int RUNS = 250;
  /** What an object is used for at most. */
  private static final int CALLS = 512;
  /** The most that one step calls, and then the counts at the end. */
  private static final int CALLS_OF_A_STEP = 6, CALLS_AT_THE_END = 5;
  private static final int[] EXTREMES = Check.extremes();
  private static final Check CHECK = new Check("ModelTest");

  private final Random random;
  private final int run;
  private final StrokeBook book = new StrokeBook();
  private final SlowBook slow = new SlowBook();
  /** The lane that a sheet was last asked to have, so that most scans get past the cast. */
  private int lane = 0;
  private int calls = 0;

  private ModelTest(int run) {
    this.run = run;
    random = new Random(run);
  }

  public static void main(String[] args) {
    for (int run = 0; run < RUNS && CHECK.wrong() == 0; run++) {
      new ModelTest(run).go();
    }
    CHECK.finish();
  }

  private void go() {
    // Some runs draw and teach more, some read and mark more, so that every row gets full in one.
    int drawing = 10 + random.nextInt(50);
    int teaching = drawing + 5 + random.nextInt(15);
    while (calls <= CALLS - CALLS_OF_A_STEP - CALLS_AT_THE_END && CHECK.wrong() == 0) {
      int before = calls;
      int sort = random.nextInt(100);
      if (sort < drawing) {
        draw();
      } else if (sort < teaching) {
        teach();
      } else if (sort < 85) {
        read();
      } else if (sort < 92) {
        sheets();
      } else {
        commands();
      }
      CHECK.holds("a step has few calls", calls - before <= CALLS_OF_A_STEP);
    }
    for (int what = 0; what <= 4; what++) {
      due("count(" + what + ")", book.count(what), slow.count(what));
    }
    CHECK.holds("an object is used for 512 calls at most", calls <= CALLS);
  }

  private void due(String call, int got, int want) {
    calls++;
    CHECK.due("run " + run + ": " + call, got, want);
  }

  /** Mostly from least to greatest; seldom just beyond, more seldom far beyond. */
  private int pick(int least, int greatest) {
    int sort = random.nextInt(120);
    if (sort == 0) {
      return EXTREMES[random.nextInt(EXTREMES.length)];
    }
    if (sort == 1) {
      return least - 1;
    }
    if (sort == 2) {
      return greatest + 1;
    }
    return least + random.nextInt(Math.max(1, greatest - least + 1));
  }

  private int coordinate() {
    return random.nextInt(3) == 0 ? pick(-100, 100) : 5 * random.nextInt(5) - 10;
  }

  private void draw() {
    int sort = random.nextInt(20);
    if (sort == 0) {
      due("clear()", book.clear(), slow.clear());
    } else if (sort == 1) {
      due("way()", book.way(), slow.way());
    } else if (sort == 2) {
      int i = pick(0, 7);
      int what = pick(0, 1);
      due("even(" + i + ", " + what + ")", book.even(i, what), slow.even(i, what));
    } else if (sort == 3) {
      int i = pick(0, 7);
      int what = pick(0, 1);
      due("normal(" + i + ", " + what + ")", book.normal(i, what), slow.normal(i, what));
    } else {
      int x = coordinate();
      int y = coordinate();
      boolean lifted = random.nextInt(5) == 0;
      due("point(" + x + ", " + y + ", " + lifted + ")", book.point(x, y, lifted), slow.point(x, y, lifted));
    }
  }

  private int number() {
    return pick(0, Math.max(0, slow.count(1) - 1));
  }

  private void teach() {
    int sort = random.nextInt(20);
    if (sort < 8) {
      int label = random.nextBoolean() ? random.nextInt(3) : pick(0, 9);
      int kind = pick(0, 4);
      due("teach(" + label + ", " + kind + ")", book.teach(label, kind), slow.teach(label, kind));
    } else if (sort < 10) {
      int k = number();
      due("forget(" + k + ")", book.forget(k), slow.forget(k));
    } else if (sort < 13) {
      due("undo()", book.undo(), slow.undo());
    } else if (sort < 15) {
      int k = number();
      int v = pick(0, 9);
      due("label(" + k + ", " + v + ")", book.label(k, v), slow.label(k, v));
    } else if (sort < 17) {
      int k = number();
      int what = pick(0, 1);
      due("told(" + k + ", " + what + ")", book.told(k, what), slow.told(k, what));
    } else {
      int k = number();
      int i = pick(0, 7);
      int what = pick(0, 1);
      due("taught(" + k + ", " + i + ", " + what + ")", book.taught(k, i, what), slow.taught(k, i, what));
    }
  }

  private void read() {
    int sort = random.nextInt(20);
    if (sort == 0) {
      // Often just what the nearest one is away, so that the ends themselves are met.
      int end = random.nextBoolean() ? Math.max(0, slow.distance(Math.max(0, slow.nearest()))) : pick(0, 100000);
      int margin = random.nextInt(3) > 0 ? 0 : pick(0, 9000);
      due("ends(" + end + ", " + margin + ")", book.ends(end, margin), slow.ends(end, margin));
    } else if (sort < 4) {
      int k = number();
      due("distance(" + k + ")", book.distance(k), slow.distance(k));
    } else if (sort < 6) {
      due("nearest()", book.nearest(), slow.nearest());
    } else if (sort < 9) {
      due("read()", book.read(), slow.read());
    } else if (sort < 13) {
      due("mark()", book.mark(), slow.mark());
    } else if (sort < 14) {
      int label = random.nextBoolean() ? random.nextInt(3) : pick(0, 9);
      int d = random.nextInt(3) > 0 ? Math.max(0, slow.between(number(), number())) : pick(0, 100000);
      due("confused(" + label + ", " + d + ")", book.confused(label, d), slow.confused(label, d));
    } else if (sort < 16) {
      int a = number();
      int b = number();
      due("between(" + a + ", " + b + ")", book.between(a, b), slow.between(a, b));
    } else {
      stroke();
    }
  }

  /** A new mark of a few points, so that there is something to read. */
  private void stroke() {
    due("clear()", book.clear(), slow.clear());
    int many = 2 + random.nextInt(4);
    for (int n = 0; n < many; n++) {
      int x = coordinate();
      int y = coordinate();
      boolean lifted = random.nextInt(4) == 0;
      due("point(" + x + ", " + y + ", " + lifted + ")", book.point(x, y, lifted), slow.point(x, y, lifted));
    }
  }

  private int labelWithin(boolean within) {
    if (!within) {
      return random.nextInt(60) == 0 ? 1 : 0;
    }
    return random.nextInt(3) > 0 ? random.nextInt(3) : pick(0, 9);
  }

  private void commands() {
    int sort = random.nextInt(20);
    int context = pick(0, 3);
    if (sort < 6) {
      int rank = random.nextBoolean() ? random.nextInt(3) : pick(0, 9);
      int n = random.nextBoolean() ? 1 : pick(1, 4);
      int a = labelWithin(true);
      int b = labelWithin(n > 1);
      int c = labelWithin(n > 2);
      int d = labelWithin(n > 3);
      due("command(" + context + ", " + rank + ", " + n + ", " + a + ", " + b + ", " + c + ", " + d + ")",
          book.command(context, rank, n, a, b, c, d), slow.command(context, rank, n, a, b, c, d));
    } else if (sort < 10) {
      due("parse(" + context + ")", book.parse(context), slow.parse(context));
    } else if (sort < 15) {
      int i = random.nextInt(4) > 0 ? pick(0, Math.max(0, slow.parse(context) - 1)) : pick(0, 40);
      int what = pick(0, 1);
      due("found(" + context + ", " + i + ", " + what + ")",
          book.found(context, i, what), slow.found(context, i, what));
    } else if (sort < 17) {
      due("hidden()", book.hidden(), slow.hidden());
    } else if (sort < 19) {
      int i = pick(0, Math.max(0, slow.count(3) - 1));
      due("line(" + i + ")", book.line(i), slow.line(i));
    } else if (random.nextInt(8) == 0) {
      due("wipe()", book.wipe(), slow.wipe());
    }
  }

  private void sheets() {
    int sort = random.nextInt(20);
    int k = random.nextInt(6) > 0 ? 0 : pick(0, 3);
    if (sort < 2) {
      lane = pick(0, 2);
      int n = pick(0, 60);
      due("sheet(" + k + ", " + lane + ", " + n + ")", book.sheet(k, lane, n), slow.sheet(k, lane, n));
    } else if (sort < 13) {
      int i = random.nextInt(5) > 0 ? pick(0, 20) : pick(0, 60);
      int v = random.nextInt(8) > 0 ? pick(-100, 100) : random.nextInt() >> random.nextInt(24);
      due("lay(" + k + ", " + i + ", " + v + ")", book.lay(k, i, v), slow.lay(k, i, v));
    } else {
      int as = random.nextInt(4) > 0 ? lane : pick(0, 2);
      int f = random.nextBoolean() ? 0 : pick(0, 60);
      int n = random.nextInt(3) > 0 ? random.nextInt(4) : pick(0, 20);
      due("scan(" + k + ", " + as + ", " + f + ", " + n + ")",
          book.scan(k, as, f, n), slow.scan(k, as, f, n));
    }
  }
}
