import java.util.ArrayList;
import java.util.Arrays;
import java.util.List;

/**
 * The document once more, written another way: lists for rows, copies of all that is taught for
 * undo, every pairing tried for clouds. Random runs hold StrokeBook against it.
 */
final class SlowBook {
  record Point(int x, int y, boolean lifted) {}

  record Mark(int label, int kind, int[][] points) {}

  record Command(int context, int rank, List<Integer> labels) {}

  record Find(int number, int place) {}

  record Sheet(int lane, long[] cells) {}

  private static final int NO_POINT = 1000000;

  private final List<Point> draft = new ArrayList<>();
  private List<Mark> taught = new ArrayList<>();
  private final List<List<Mark>> before = new ArrayList<>();
  private final List<Command> commands = new ArrayList<>();
  private final List<Integer> line = new ArrayList<>();
  private final Sheet[] sheets = new Sheet[4];
  private int end = 20000;
  private int margin = 0;

  private static boolean in(int v, int least, int greatest) {
    return least <= v && v <= greatest;
  }

  private static int far(int[] p, int[] q) {
    return Math.abs(p[0] - q[0]) + Math.abs(p[1] - q[1]);
  }

  private static int[] at(Point p) {
    return new int[] {p.x, p.y};
  }

  int point(int x, int y, boolean lifted) {
    if (!in(x, -100, 100) || !in(y, -100, 100)) return -1;
    if (draft.size() == 30) return -3;
    draft.add(new Point(x, y, !draft.isEmpty() && lifted));
    return draft.size();
  }

  int clear() {
    int many = draft.size();
    draft.clear();
    return many;
  }

  int way() {
    return wayTo(draft.size() - 1);
  }

  /** The way up to point q. */
  private int wayTo(int q) {
    int sum = 0;
    for (int n = 1; n <= q; n++) {
      if (!draft.get(n).lifted) sum += far(at(draft.get(n - 1)), at(draft.get(n)));
    }
    return sum;
  }

  private int[][] evenPoints() {
    long whole = way();
    if (whole == 0) return null;
    int[][] even = new int[8][];
    for (int i = 0; i < 8; i++) {
      for (int q = 1; q < draft.size() && even[i] == null; q++) {
        int[] from = at(draft.get(q - 1));
        int[] to = at(draft.get(q));
        long s = far(from, to);
        long t = wayTo(q - 1);
        if (draft.get(q).lifted || s == 0 || i * whole > 7 * (t + s)) continue;
        even[i] = new int[2];
        for (int c = 0; c < 2; c++) {
          long part = (to[c] - from[c]) * 100L * (i * whole - 7 * t);
          even[i][c] = (int) (100L * from[c] + down(part, 7 * s));
        }
      }
    }
    return even;
  }

  /** To the next whole number below, by a remainder, not by floorDiv. */
  private static long down(long v, long by) {
    long rest = v % by;
    return rest < 0 ? (v - rest) / by - 1 : (v - rest) / by;
  }

  private int[][] normalPoints() {
    int[][] points = evenPoints();
    if (points == null) return null;
    long greatest = 0;
    for (int c = 0; c < 2; c++) {
      int axis = c;
      int least = Arrays.stream(points).mapToInt(p -> p[axis]).min().getAsInt();
      int most = Arrays.stream(points).mapToInt(p -> p[axis]).max().getAsInt();
      long middle = down(least + most, 2);
      for (int[] p : points) {
        p[c] -= middle;
        greatest = Math.max(greatest, Math.abs(p[c]));
      }
    }
    for (int[] p : points) {
      p[0] = greatest == 0 ? 0 : (int) down(p[0] * 1000L, greatest);
      p[1] = greatest == 0 ? 0 : (int) down(p[1] * 1000L, greatest);
    }
    return points;
  }

  private static int pick(int[][] points, int i, int what) {
    return points == null || !in(i, 0, 7) || !in(what, 0, 1) ? NO_POINT : points[i][what];
  }

  int even(int i, int what) {
    return pick(evenPoints(), i, what);
  }

  int normal(int i, int what) {
    return pick(normalPoints(), i, what);
  }

  private void act() {
    before.add(new ArrayList<>(taught));
    if (before.size() > 6) before.remove(0);
  }

  int teach(int label, int kind) {
    if (!in(label, 0, 9) || !in(kind, 0, 4)) return -1;
    int[][] points = normalPoints();
    if (points == null) return -2;
    if (taught.size() == 16) return -3;
    act();
    taught.add(new Mark(label, kind, points));
    return taught.size() - 1;
  }

  private boolean noSuch(int k) {
    return !in(k, 0, taught.size() - 1);
  }

  int forget(int k) {
    if (noSuch(k)) return -1;
    act();
    return taught.remove(k).label;
  }

  int undo() {
    if (before.isEmpty()) return -4;
    taught = before.remove(before.size() - 1);
    return before.size();
  }

  int label(int k, int v) {
    if (noSuch(k) || !in(v, 0, 9)) return -1;
    act();
    Mark old = taught.get(k);
    taught.set(k, new Mark(v, old.kind, old.points));
    return old.label;
  }

  int told(int k, int what) {
    if (noSuch(k) || !in(what, 0, 1)) return -1;
    return what == 0 ? taught.get(k).label : taught.get(k).kind;
  }

  int taught(int k, int i, int what) {
    return noSuch(k) ? NO_POINT : pick(taught.get(k).points, i, what);
  }

  int ends(int end, int margin) {
    if (!in(end, 0, 100000) || !in(margin, 0, 100000)) return -1;
    this.end = end;
    this.margin = margin;
    return 1;
  }

  private static int[][] turned(int[][] points) {
    int[][] next = new int[8][];
    for (int i = 0; i < 8; i++) next[i] = new int[] {-points[i][1], points[i][0]};
    return next;
  }

  private static int inOrder(int[][] mark, int[][] other, boolean backward) {
    int sum = 0;
    for (int i = 0; i < 8; i++) sum += far(mark[i], other[backward ? 7 - i : i]);
    return sum;
  }

  /** The least of what is so far and all pairings of the points from i on with those not taken. */
  private static int pairings(int[][] mark, int[][] other, int i, boolean[] taken, int sum, int least) {
    if (sum >= least) return least;
    if (i == 8) return sum;
    for (int j = 0; j < 8; j++) {
      if (taken[j]) continue;
      taken[j] = true;
      least = pairings(mark, other, i + 1, taken, sum + far(mark[i], other[j]), least);
      taken[j] = false;
    }
    return least;
  }

  private static int distance(int[][] mark, Mark other) {
    int kind = other.kind;
    int least = NO_POINT;
    int[][] now = mark;
    for (int turn = 0; turn < 4; turn++) {
      if (turn > 0 && kind != 1 && kind != 4) break;
      if (kind >= 3) {
        least = Math.min(least, pairings(now, other.points, 0, new boolean[8], 0, NO_POINT));
      } else {
        least = Math.min(least, inOrder(now, other.points, false));
        if (kind == 2) least = Math.min(least, inOrder(now, other.points, true));
      }
      now = turned(now);
    }
    return least;
  }

  int distance(int k) {
    if (noSuch(k)) return -1;
    int[][] mark = normalPoints();
    return mark == null ? -2 : distance(mark, taught.get(k));
  }

  int nearest() {
    int[][] mark = normalPoints();
    if (mark == null) return -2;
    if (taught.isEmpty()) return -4;
    List<Integer> all = taught.stream().map(t -> distance(mark, t)).toList();
    return all.indexOf(all.stream().min(Integer::compare).get());
  }

  int read() {
    int k = nearest();
    if (k < 0) return k;
    int[][] mark = normalPoints();
    int label = taught.get(k).label;
    int own = distance(mark, taught.get(k));
    int other = taught.stream().filter(t -> t.label != label)
        .mapToInt(t -> distance(mark, t)).min().orElse(Integer.MAX_VALUE);
    return own <= end && other >= own + margin ? label : -5;
  }

  int mark() {
    int label = read();
    if (label < 0) return label;
    if (line.size() == 40) return -3;
    line.add(label);
    draft.clear();
    return label;
  }

  int confused(int label, int d) {
    if (!in(label, 0, 9) || !in(d, 0, 100000)) return -1;
    return (int) taught.stream().filter(a -> a.label == label)
        .filter(a -> taught.stream().anyMatch(b -> b.label != label
            && Math.min(distance(a.points, b), distance(b.points, a)) <= d))
        .count();
  }

  int between(int a, int b) {
    return noSuch(a) || noSuch(b) ? -1 : distance(taught.get(a).points, taught.get(b));
  }

  int command(int context, int rank, int n, int a, int b, int c, int d) {
    if (!in(context, 0, 3) || !in(rank, 0, 9) || !in(n, 1, 4)) return -1;
    int[] labels = {a, b, c, d};
    List<Integer> row = new ArrayList<>();
    for (int i = 0; i < 4; i++) {
      if (!in(labels[i], 0, i < n ? 9 : 0)) return -1;
      if (i < n) row.add(labels[i]);
    }
    if (commands.size() == 10) return -3;
    commands.add(new Command(context, rank, row));
    return commands.size() - 1;
  }

  private boolean stands(Command c, int context, int place) {
    int to = place + c.labels.size();
    return (c.context == 0 || c.context == context) && to <= line.size()
        && line.subList(place, to).equals(c.labels);
  }

  /** 10000 for each label, 100 for each rank, less the number: the greatest goes ahead. */
  private int worth(int k) {
    return 10000 * commands.get(k).labels.size() + 100 * commands.get(k).rank - k;
  }

  private List<Find> finds(int context) {
    List<Find> finds = new ArrayList<>();
    for (int place = 0; place < line.size();) {
      int best = -1;
      for (int k = 0; k < commands.size(); k++) {
        if (stands(commands.get(k), context, place) && (best < 0 || worth(k) > worth(best))) best = k;
      }
      if (best >= 0) finds.add(new Find(best, place));
      place += best < 0 ? 1 : commands.get(best).labels.size();
    }
    return finds;
  }

  int parse(int context) {
    return in(context, 0, 3) ? finds(context).size() : -1;
  }

  int found(int context, int i, int what) {
    if (!in(context, 0, 3) || i < 0 || !in(what, 0, 1)) return -1;
    List<Find> finds = finds(context);
    if (i >= finds.size()) return -4;
    return what == 0 ? finds.get(i).number : finds.get(i).place;
  }

  int hidden() {
    for (int k = 0; k < commands.size(); k++) {
      Command c = commands.get(k);
      for (int j = 0; j < commands.size(); j++) {
        Command o = commands.get(j);
        boolean there = o.context == 0 || o.context == c.context;
        boolean ahead = o.rank > c.rank || (o.rank == c.rank && j < k);
        if (there && ahead && o.labels.equals(c.labels)) return k;
      }
    }
    return -4;
  }

  int line(int i) {
    return in(i, 0, line.size() - 1) ? line.get(i) : -1;
  }

  int wipe() {
    int many = line.size();
    line.clear();
    return many;
  }

  int sheet(int k, int lane, int n) {
    if (!in(k, 0, 3) || !in(lane, 0, 2) || n > 60) return -1;
    if (n < 0) return -14;
    sheets[k] = new Sheet(lane, new long[n]);
    return 1;
  }

  int lay(int k, int i, int v) {
    if (!in(k, 0, 3)) return -1;
    if (sheets[k] == null) return -11;
    if (!in(i, 0, sheets[k].cells.length - 1)) return -12;
    sheets[k].cells[i] = lowest(v, new int[] {8, 16, 32}[sheets[k].lane]);
    return 1;
  }

  private static long lowest(long v, int bits) {
    long rest = Math.floorMod(v, 1L << bits);
    return rest >= 1L << (bits - 1) ? rest - (1L << bits) : rest;
  }

  int scan(int k, int lane, int f, int n) {
    if (!in(k, 0, 3) || !in(lane, 0, 2) || !in(n, 0, 20)) return -1;
    if (sheets[k] == null) return -11;
    if (sheets[k].lane != lane) return -13;
    List<Point> old = new ArrayList<>(draft);
    long[] cells = sheets[k].cells;
    for (int i = 0; i < n; i++) {
      long from = f + 3L * i;
      int said = from < 0 || from + 2 >= cells.length ? 8
          : point((int) cells[(int) from], (int) cells[(int) from + 1], cells[(int) from + 2] != 0);
      if (said < 0 || from < 0 || from + 2 >= cells.length) {
        draft.clear();
        draft.addAll(old);
        return said == 8 ? -12 : -20 + said;
      }
    }
    return draft.size();
  }

  int count(int what) {
    int[] counts = {draft.size(), taught.size(), commands.size(), line.size(), before.size()};
    return in(what, 0, 4) ? counts[what] : -1;
  }
}
