import java.util.ArrayList;
import java.util.List;

/**
 * What the calls of a book show: a fixed run of calls with their answers. It uses the book up, so
 * it is asked of two that were told the same but for one call.
 */
final class Look {
  private static final int TAUGHT = 16, LINE = 40, CONTEXTS = 4, SHEETS = 4, LANES = 3;

  private final StrokeBook book;
  private final List<String> seen = new ArrayList<>();

  private Look(StrokeBook book) {
    this.book = book;
  }

  static List<String> at(StrokeBook book) {
    Look look = new Look(book);
    look.draft();
    look.teaching();
    look.reading();
    look.commands();
    look.marking();
    look.sheets();
    look.undoing();
    look.adding();
    return look.seen;
  }

  private void ask(String call) {
    seen.add(call + " answers " + Told.answer(book, call));
  }

  private void counts() {
    for (int what = 0; what <= 4; what++) {
      ask("count(" + what + ")");
    }
  }

  private void draft() {
    counts();
    ask("way()");
    for (int i = 0; i < 8; i += 3) {
      for (int what = 0; what <= 1; what++) {
        ask("even(" + i + ", " + what + ")");
        ask("normal(" + i + ", " + what + ")");
      }
    }
  }

  private void teaching() {
    for (int k = 0; k < TAUGHT; k++) {
      ask("told(" + k + ", 0)");
      ask("told(" + k + ", 1)");
      ask("taught(" + k + ", 5, " + k % 2 + ")");
    }
  }

  private void reading() {
    for (int k = 0; k < TAUGHT; k++) {
      ask("distance(" + k + ")");
    }
    ask("nearest()");
    ask("read()");
    ask("between(0, 1)");
    ask("between(1, 0)");
    ask("confused(1, 9142)");
  }

  private void commands() {
    for (int context = 0; context < CONTEXTS; context++) {
      ask("parse(" + context + ")");
      ask("found(" + context + ", 0, 0)");
      ask("found(" + context + ", 0, 1)");
      ask("found(" + context + ", 1, 0)");
    }
    ask("hidden()");
    for (int i = 0; i < LINE; i++) {
      ask("line(" + i + ")");
    }
  }

  private void marking() {
    ask("mark()");
    ask("count(0)");
    ask("count(3)");
    ask("wipe()");
    ask("mark()");
    ask("point(1, 2, true)");
    ask("way()");
  }

  /** The first five cells and the last of sixty, as the points that they are. */
  private void sheets() {
    for (int k = 0; k < SHEETS; k++) {
      for (int lane = 0; lane < LANES; lane++) {
        ask("clear()");
        ask("scan(" + k + ", " + lane + ", 0, 1)");
        ask("scan(" + k + ", " + lane + ", 2, 1)");
        ask("scan(" + k + ", " + lane + ", 57, 1)");
        ask("point(100, 99, false)");
        ask("way()");
      }
    }
  }

  private void undoing() {
    for (int n = 0; n < 7; n++) {
      ask("undo()");
      ask("count(1)");
      ask("told(0, 0)");
      ask("told(1, 0)");
      ask("told(15, 0)");
    }
  }

  private void adding() {
    ask("clear()");
    ask("point(3, 3, true)");
    ask("point(9, 3, false)");
    ask("way()");
    ask("teach(1, 2)");
    ask("command(0, 0, 1, 1, 0, 0, 0)");
    counts();
  }
}
