/** A book of strokes: see the document's promises 1 to 29, to which the method comments point. */
public final class StrokeBook {
  public static final int BAD = -1, STATE = -2, FULL = -3, NONE = -4;

  private static final int REJECTED = -5;
  private static final int NONE_SUCH = 1000000;
  private static final int FAULT_BASE = -10;
  private static final int FAULT_NULL = 1, FAULT_INDEX = 2, FAULT_CAST = 3, FAULT_SIZE = 4;
  private static final int POINT_BASE = -20;
  private static final int GREATEST_LABEL = 9;
  private static final int GREATEST_KIND = 4;
  private static final int GREATEST_CONTEXT = 3;
  private static final int GREATEST_RANK = 9;
  private static final int GREATEST_DISTANCE = 100000;
  private static final int MOST_SCANNED = 20;
  private static final int FIRST_END = 20000;
  private static final int EVEN_POINTS = 8;
  private static final int LAST_EVEN = 7;
  /** The x and y of eight points by turns: a mark's even or normal row. */
  private static final int ROW = 16;

  private final Draft draft;
  private final TaughtMarks marks;
  private final Acts acts;
  private final Measure measure;
  private final Commands commands;
  private final LabelLine labels;
  private final Sheets sheets;
  /** How far the draft is from each taught mark, filled by each reading. */
  private final int[] distances;
  private int end;
  private int margin;

  /** Promise 1. All rows are made here and used again, since nothing that a run makes is given back. */
  public StrokeBook() {
    draft = new Draft();
    marks = new TaughtMarks();
    acts = new Acts();
    measure = new Measure();
    commands = new Commands();
    labels = new LabelLine();
    sheets = new Sheets();
    distances = new int[TaughtMarks.MOST];
    end = FIRST_END;
    margin = 0;
  }

  // ---- the draft

  /** Promise 2. */
  public int point(int x, int y, boolean lifted) {
    return draft.add(x, y, lifted);
  }

  /** Promise 3. */
  public int clear() {
    return draft.empty();
  }

  /** Promise 4. */
  public int way() {
    return draft.length();
  }

  /** Promise 5. */
  public int even(int i, int what) {
    if (!isWithin(i, LAST_EVEN) || !isWithin(what, 1) || !draft.makeEven()) {
      return NONE_SUCH;
    }
    return draft.evenRow[2 * i + what];
  }

  /** Promise 6. */
  public int normal(int i, int what) {
    if (!isWithin(i, LAST_EVEN) || !isWithin(what, 1) || !draft.makeNormal()) {
      return NONE_SUCH;
    }
    return draft.normalRow[2 * i + what];
  }

  // ---- teaching

  /** Promise 7. */
  public int teach(int label, int kind) {
    if (!isWithin(label, GREATEST_LABEL) || !isWithin(kind, GREATEST_KIND)) {
      return BAD;
    }
    if (!draft.makeNormal()) {
      return STATE;
    }
    if (marks.size >= TaughtMarks.MOST) {
      return FULL;
    }
    int k = marks.size;
    marks.insert(k, label, kind, draft.normalRow, 0);
    acts.push(Acts.TEACH, k, label, kind);
    return k;
  }

  /** Promise 8. */
  public int forget(int k) {
    if (!marks.has(k)) {
      return BAD;
    }
    int label = marks.labels[k];
    int slot = acts.push(Acts.FORGET, k, label, marks.kinds[k]);
    System.arraycopy(marks.points, k * ROW, acts.points, slot * ROW, ROW);
    marks.remove(k);
    return label;
  }

  /** Promise 9. */
  public int undo() {
    if (acts.size == 0) {
      return NONE;
    }
    int slot = acts.pop();
    int k = acts.numbers[slot];
    if (acts.sorts[slot] == Acts.TEACH) {
      marks.remove(k);
    } else if (acts.sorts[slot] == Acts.FORGET) {
      marks.insert(k, acts.labels[slot], acts.kinds[slot], acts.points, slot * ROW);
    } else if (marks.has(k)) {
      marks.labels[k] = acts.labels[slot];
    }
    return acts.size;
  }

  /** Promise 10. */
  public int label(int k, int v) {
    if (!marks.has(k) || !isWithin(v, GREATEST_LABEL)) {
      return BAD;
    }
    int before = marks.labels[k];
    acts.push(Acts.LABEL, k, before, marks.kinds[k]);
    marks.labels[k] = v;
    return before;
  }

  /** Promise 11. */
  public int told(int k, int what) {
    if (!marks.has(k) || !isWithin(what, 1)) {
      return BAD;
    }
    return what == 0 ? marks.labels[k] : marks.kinds[k];
  }

  /** Promise 12. */
  public int taught(int k, int i, int what) {
    if (!marks.has(k) || !isWithin(i, LAST_EVEN) || !isWithin(what, 1)) {
      return NONE_SUCH;
    }
    return marks.points[k * ROW + 2 * i + what];
  }

  // ---- reading

  /** Promise 13. */
  public int ends(int end, int margin) {
    if (!isWithin(end, GREATEST_DISTANCE) || !isWithin(margin, GREATEST_DISTANCE)) {
      return BAD;
    }
    this.end = end;
    this.margin = margin;
    return 1;
  }

  /** Promise 14. */
  public int distance(int k) {
    if (!marks.has(k)) {
      return BAD;
    }
    if (!draft.makeNormal()) {
      return STATE;
    }
    return measure.distanceFrom(draft.normalRow, 0, marks, k);
  }

  /** Promise 15. */
  public int nearest() {
    return measureDraft();
  }

  /** Promise 16. */
  public int read() {
    return labelRead(measureDraft());
  }

  /** Promise 17. */
  public int mark() {
    int label = labelRead(measureDraft());
    if (label < 0) {
      return label;
    }
    if (!labels.add(label)) {
      return FULL;
    }
    draft.empty();
    return label;
  }

  /** Promise 18. */
  public int confused(int label, int d) {
    if (!isWithin(label, GREATEST_LABEL) || !isWithin(d, GREATEST_DISTANCE)) {
      return BAD;
    }
    int many = 0;
    for (int k = 0; k < marks.size; k++) {
      if (marks.labels[k] == label && isConfused(k, d)) {
        many++;
      }
    }
    return many;
  }

  /** Promise 19. */
  public int between(int a, int b) {
    if (!marks.has(a) || !marks.has(b)) {
      return BAD;
    }
    return measure.distanceFrom(marks.points, a * ROW, marks, b);
  }

  // ---- commands

  /** Promise 20. */
  public int command(int context, int rank, int n, int a, int b, int c, int d) {
    if (!isWithin(context, GREATEST_CONTEXT) || !isWithin(rank, GREATEST_RANK)) {
      return BAD;
    }
    if (n < 1 || n > Commands.MOST_LABELS || !isWithin(a, GREATEST_LABEL)
        || !isWithin(b, n > 1 ? GREATEST_LABEL : 0)
        || !isWithin(c, n > 2 ? GREATEST_LABEL : 0)
        || !isWithin(d, n > 3 ? GREATEST_LABEL : 0)) {
      return BAD;
    }
    if (commands.size >= Commands.MOST) {
      return FULL;
    }
    int number = commands.open(context, rank, n);
    commands.put(number, 0, a);
    commands.put(number, 1, b);
    commands.put(number, 2, c);
    commands.put(number, 3, d);
    return number;
  }

  /** Promise 21. */
  public int parse(int context) {
    if (!isWithin(context, GREATEST_CONTEXT)) {
      return BAD;
    }
    labels.findCommands(commands, context);
    return labels.foundSize;
  }

  /** Promise 22. */
  public int found(int context, int i, int what) {
    if (!isWithin(context, GREATEST_CONTEXT) || i < 0 || !isWithin(what, 1)) {
      return BAD;
    }
    labels.findCommands(commands, context);
    if (i >= labels.foundSize) {
      return NONE;
    }
    return what == 0 ? labels.foundNumbers[i] : labels.foundPlaces[i];
  }

  /** Promise 23. */
  public int hidden() {
    for (int k = 0; k < commands.size; k++) {
      if (commands.isHidden(k)) {
        return k;
      }
    }
    return NONE;
  }

  /** Promise 24. */
  public int line(int i) {
    if (i < 0 || i >= labels.size) {
      return BAD;
    }
    return labels.row[i];
  }

  /** Promise 25. */
  public int wipe() {
    return labels.empty();
  }

  // ---- sheets

  /** Promise 26. */
  public int sheet(int k, int lane, int n) {
    if (!Sheets.isNumber(k) || !Sheets.isLane(lane) || n > Sheets.MOST_CELLS) {
      return BAD;
    }
    if (n < 0) {
      return FAULT_BASE - FAULT_SIZE;
    }
    sheets.makeNew(k, lane, n);
    return 1;
  }

  /** Promise 27. */
  public int lay(int k, int i, int v) {
    if (!Sheets.isNumber(k)) {
      return BAD;
    }
    if (sheets.isNothing(k)) {
      return FAULT_BASE - FAULT_NULL;
    }
    if (!sheets.hasCells(k, i, 1)) {
      return FAULT_BASE - FAULT_INDEX;
    }
    sheets.put(k, i, v);
    return 1;
  }

  /** Promise 28. */
  public int scan(int k, int lane, int f, int n) {
    if (!Sheets.isNumber(k) || !Sheets.isLane(lane) || !isWithin(n, MOST_SCANNED)) {
      return BAD;
    }
    if (sheets.isNothing(k)) {
      return FAULT_BASE - FAULT_NULL;
    }
    if (sheets.lanes[k] != lane) {
      return FAULT_BASE - FAULT_CAST;
    }
    int before = draft.size;
    for (int i = 0; i < n; i++) {
      int refused = scanPoint(k, f, i);
      if (refused < 0) {
        // What is refused changes nothing: the points that came already go again.
        draft.cutTo(before);
        return refused;
      }
    }
    return draft.size;
  }

  /** Promise 29. */
  public int count(int what) {
    switch (what) {
      case 0:
        return draft.size;
      case 1:
        return marks.size;
      case 2:
        return commands.size;
      case 3:
        return labels.size;
      case 4:
        return acts.size;
      default:
        return BAD;
    }
  }

  // ---- inside

  private static boolean isWithin(int v, int greatest) {
    return v >= 0 && v <= greatest;
  }

  /** The number of the nearest taught mark, or why there is none. */
  private int measureDraft() {
    if (!draft.makeNormal()) {
      return STATE;
    }
    if (marks.size == 0) {
      return NONE;
    }
    int best = 0;
    for (int k = 0; k < marks.size; k++) {
      distances[k] = measure.distanceFrom(draft.normalRow, 0, marks, k);
      if (distances[k] < distances[best]) {
        best = k;
      }
    }
    return best;
  }

  /** The label as which the draft, just measured, is read: best is the nearest, or why there is none. */
  private int labelRead(int best) {
    if (!marks.has(best)) {
      return best;
    }
    int label = marks.labels[best];
    if (distances[best] > end) {
      return REJECTED;
    }
    for (int k = 0; k < marks.size; k++) {
      if (marks.labels[k] != label && distances[k] - distances[best] < margin) {
        return REJECTED;
      }
    }
    return label;
  }

  private boolean isConfused(int k, int d) {
    for (int other = 0; other < marks.size; other++) {
      if (marks.labels[other] != marks.labels[k]
          && (measure.distanceFrom(marks.points, k * ROW, marks, other) <= d
              || measure.distanceFrom(marks.points, other * ROW, marks, k) <= d)) {
        return true;
      }
    }
    return false;
  }

  /** Point i of those from cell f on comes to the draft: how many it has then, or why it can't. */
  private int scanPoint(int k, int f, int i) {
    // Asked by the whole length from f on, since f + 3 * i could wrap round.
    if (!sheets.hasCells(k, f, 3 * i + 3)) {
      return FAULT_BASE - FAULT_INDEX;
    }
    int from = f + 3 * i;
    int x = sheets.cell(k, from);
    int y = sheets.cell(k, from + 1);
    boolean lifted = sheets.cell(k, from + 2) != 0;
    int many = draft.add(x, y, lifted);
    return many < 0 ? POINT_BASE + many : many;
  }

  /** The mark that is drawn. */
  private static final class Draft {
    static final int MOST = 30;
    static final int REACH = 100;

    final int[] xs = new int[MOST];
    final int[] ys = new int[MOST];
    final boolean[] liftedTo = new boolean[MOST];
    final int[] evenRow = new int[ROW];
    final int[] normalRow = new int[ROW];
    int size = 0;

    int add(int x, int y, boolean lifted) {
      if (x < -REACH || x > REACH || y < -REACH || y > REACH) {
        return BAD;
      }
      if (size >= MOST) {
        return FULL;
      }
      xs[size] = x;
      ys[size] = y;
      liftedTo[size] = lifted && size > 0;
      size++;
      return size;
    }

    int empty() {
      int many = size;
      size = 0;
      return many;
    }

    void cutTo(int many) {
      size = many;
    }

    /** What is drawn to point q from the one ahead, which there must be. */
    int drawnTo(int q) {
      if (liftedTo[q]) {
        return 0;
      }
      return Math.abs(xs[q] - xs[q - 1]) + Math.abs(ys[q] - ys[q - 1]);
    }

    int length() {
      int sum = 0;
      for (int q = 1; q < size; q++) {
        sum += drawnTo(q);
      }
      return sum;
    }

    /** Fills the even row; false: the way is 0, so there is none. */
    boolean makeEven() {
      int whole = length();
      if (whole == 0) {
        return false;
      }
      for (int i = 0; i < EVEN_POINTS; i++) {
        placeEven(i, i * whole);
      }
      return true;
    }

    /** The goal and what is drawn are both told in sevenths of the way, to stay whole. */
    private void placeEven(int i, int goal) {
      int ahead = 0;
      for (int q = 1; q < size; q++) {
        int step = 7 * drawnTo(q);
        if (step > 0 && goal <= ahead + step) {
          evenRow[2 * i] = partWay(xs[q - 1], xs[q], goal - ahead, step);
          evenRow[2 * i + 1] = partWay(ys[q - 1], ys[q], goal - ahead, step);
          return;
        }
        ahead += step;
      }
    }

    private static int partWay(int from, int to, int part, int step) {
      if (step <= 0) {
        return 100 * from;
      }
      return 100 * from + Math.floorDiv((to - from) * 100 * part, step);
    }

    /** Fills the normal row; false: the way is 0, so there is none. */
    boolean makeNormal() {
      if (!makeEven()) {
        return false;
      }
      takeMiddleOff(0);
      takeMiddleOff(1);
      int greatest = greatestSize();
      for (int n = 0; n < ROW; n++) {
        // A way there and back again in step with the even points leaves them all in one place.
        normalRow[n] = greatest == 0 ? 0 : Math.floorDiv(1000 * normalRow[n], greatest);
      }
      return true;
    }

    /** What: 0 for the x of the row, 1 for the y. */
    private void takeMiddleOff(int what) {
      int least = evenRow[what];
      int greatest = evenRow[what];
      for (int n = what; n < ROW; n += 2) {
        least = Math.min(least, evenRow[n]);
        greatest = Math.max(greatest, evenRow[n]);
      }
      int middle = Math.floorDiv(least + greatest, 2);
      for (int n = what; n < ROW; n += 2) {
        normalRow[n] = evenRow[n] - middle;
      }
    }

    private int greatestSize() {
      int greatest = 0;
      for (int n = 0; n < ROW; n++) {
        greatest = Math.max(greatest, Math.abs(normalRow[n]));
      }
      return greatest;
    }
  }

  /** The taught marks by their numbers; all points lie in one row, ROW numbers a mark. */
  private static final class TaughtMarks {
    static final int MOST = 16;

    final int[] labels = new int[MOST];
    final int[] kinds = new int[MOST];
    final int[] points = new int[MOST * ROW];
    int size = 0;

    boolean has(int k) {
      return k >= 0 && k < size;
    }

    /** A mark gets the number k; those from k on get the number one more. */
    void insert(int k, int label, int kind, int[] row, int from) {
      if (k < 0 || k > size || size >= MOST || from < 0 || from > row.length - ROW) {
        return;
      }
      int later = size - k;
      System.arraycopy(labels, k, labels, k + 1, later);
      System.arraycopy(kinds, k, kinds, k + 1, later);
      System.arraycopy(points, k * ROW, points, (k + 1) * ROW, later * ROW);
      System.arraycopy(row, from, points, k * ROW, ROW);
      labels[k] = label;
      kinds[k] = kind;
      size++;
    }

    void remove(int k) {
      if (!has(k)) {
        return;
      }
      size--;
      int later = size - k;
      System.arraycopy(labels, k + 1, labels, k, later);
      System.arraycopy(kinds, k + 1, kinds, k, later);
      System.arraycopy(points, (k + 1) * ROW, points, k * ROW, later * ROW);
    }
  }

  /** The latest acts of teaching, in a ring: a new one takes the place of the oldest. */
  private static final class Acts {
    static final int MOST = 6;
    static final int TEACH = 0, FORGET = 1, LABEL = 2;

    final int[] sorts = new int[MOST];
    final int[] numbers = new int[MOST];
    final int[] labels = new int[MOST];
    final int[] kinds = new int[MOST];
    final int[] points = new int[MOST * ROW];
    int size = 0;
    private int next = 0;

    /** The slot of the new act, so that a forgotten mark's points can be laid there. */
    int push(int sort, int number, int label, int kind) {
      int slot = next;
      sorts[slot] = sort;
      numbers[slot] = number;
      labels[slot] = label;
      kinds[slot] = kind;
      next = Math.floorMod(next + 1, MOST);
      size = Math.min(size + 1, MOST);
      return slot;
    }

    /** The slot of the latest act, which is taken off. */
    int pop() {
      next = Math.floorMod(next - 1, MOST);
      size = Math.max(size - 1, 0);
      return next;
    }
  }

  /** Holds a mark against a taught one. */
  private static final class Measure {
    static final int TURNED = 1, EITHER = 2, CLOUD = 3, TURNED_CLOUD = 4;
    static final int QUARTERS = 4;
    static final int SETS = 1 << EVEN_POINTS;
    /** Above every sum: eight points are at most 4000 apart each. */
    static final int BEYOND_ALL = 1000000;

    /** The mark's points, which are turned in place. */
    private final int[] held = new int[ROW];
    /** How far point i of the mark is from point j of the other, at 8 i + j. */
    private final int[] apart = new int[EVEN_POINTS * EVEN_POINTS];
    /** By each set of the other's points: the least sum when the mark's first points have these. */
    private final int[] leastSums = new int[SETS];

    int distanceFrom(int[] row, int from, TaughtMarks marks, int k) {
      System.arraycopy(row, from, held, 0, ROW);
      int kind = marks.kinds[k];
      int turns = kind == TURNED || kind == TURNED_CLOUD ? QUARTERS : 1;
      int least = distanceUnturned(kind, marks.points, k * ROW);
      for (int turn = 1; turn < turns; turn++) {
        turnQuarter();
        least = Math.min(least, distanceUnturned(kind, marks.points, k * ROW));
      }
      return least;
    }

    private void turnQuarter() {
      for (int n = 0; n < ROW; n += 2) {
        int x = held[n];
        held[n] = -held[n + 1];
        held[n + 1] = x;
      }
    }

    private int distanceUnturned(int kind, int[] other, int from) {
      if (kind == CLOUD || kind == TURNED_CLOUD) {
        return leastPairing(other, from);
      }
      int sum = 0;
      int backward = 0;
      for (int i = 0; i < EVEN_POINTS; i++) {
        sum += pointsApart(i, other, from, i);
        backward += pointsApart(i, other, from, LAST_EVEN - i);
      }
      return kind == EITHER ? Math.min(sum, backward) : sum;
    }

    private int pointsApart(int i, int[] other, int from, int j) {
      return Math.abs(held[2 * i] - other[from + 2 * j])
          + Math.abs(held[2 * i + 1] - other[from + 2 * j + 1]);
    }

    /** Grows set by set, since trying all 40320 pairings would be too dear. */
    private int leastPairing(int[] other, int from) {
      for (int i = 0; i < EVEN_POINTS; i++) {
        for (int j = 0; j < EVEN_POINTS; j++) {
          apart[EVEN_POINTS * i + j] = pointsApart(i, other, from, j);
        }
      }
      leastSums[0] = 0;
      for (int set = 1; set < SETS; set++) {
        leastSums[set] = leastSum(set);
      }
      return leastSums[SETS - 1];
    }

    /** The last of the mark's points that have this set is paired with each of the set in turn. */
    private int leastSum(int set) {
      int first = EVEN_POINTS * (Integer.bitCount(set) - 1);
      int least = BEYOND_ALL;
      for (int j = 0; j < EVEN_POINTS; j++) {
        int bit = 1 << j;
        if ((set & bit) != 0) {
          least = Math.min(least, leastSums[set ^ bit] + apart[first + j]);
        }
      }
      return least;
    }
  }

  /** The commands by their numbers; MOST_LABELS places each, those beyond its length 0. */
  private static final class Commands {
    static final int MOST = 10;
    static final int MOST_LABELS = 4;

    final int[] contexts = new int[MOST];
    final int[] ranks = new int[MOST];
    final int[] lengths = new int[MOST];
    final int[] labels = new int[MOST * MOST_LABELS];
    int size = 0;

    /** The number of a new command, whose labels are still to be put; there must be room. */
    int open(int context, int rank, int length) {
      int number = size;
      contexts[number] = context;
      ranks[number] = rank;
      lengths[number] = length;
      size++;
      return number;
    }

    void put(int number, int place, int label) {
      labels[number * MOST_LABELS + place] = label;
    }

    int labelAt(int number, int place) {
      return labels[number * MOST_LABELS + place];
    }

    /** Whether a command is of the context, as those of context 0 are of all. */
    boolean isOf(int number, int context) {
      return contexts[number] == context || contexts[number] == 0;
    }

    /** Of two that stand at one place: whether a goes before b. */
    boolean goesBefore(int a, int b) {
      if (lengths[a] != lengths[b]) {
        return lengths[a] > lengths[b];
      }
      if (ranks[a] != ranks[b]) {
        return ranks[a] > ranks[b];
      }
      return a < b;
    }

    boolean isHidden(int k) {
      for (int other = 0; other < size; other++) {
        if (isOf(other, contexts[k]) && haveSameLabels(other, k) && goesBefore(other, k)) {
          return true;
        }
      }
      return false;
    }

    private boolean haveSameLabels(int a, int b) {
      if (lengths[a] != lengths[b]) {
        return false;
      }
      for (int place = 0; place < lengths[a]; place++) {
        if (labelAt(a, place) != labelAt(b, place)) {
          return false;
        }
      }
      return true;
    }
  }

  /** The labels of marks that were read, and the commands last found in them. */
  private static final class LabelLine {
    static final int MOST = 40;

    final int[] row = new int[MOST];
    final int[] foundNumbers = new int[MOST];
    final int[] foundPlaces = new int[MOST];
    int size = 0;
    int foundSize = 0;

    boolean add(int label) {
      if (size >= MOST) {
        return false;
      }
      row[size] = label;
      size++;
      return true;
    }

    int empty() {
      int many = size;
      size = 0;
      return many;
    }

    void findCommands(Commands commands, int context) {
      foundSize = 0;
      int place = 0;
      while (place < size) {
        int number = commandAt(commands, context, place);
        if (number == NONE) {
          place++;
        } else {
          foundNumbers[foundSize] = number;
          foundPlaces[foundSize] = place;
          foundSize++;
          place += Math.max(1, commands.lengths[number]);
        }
      }
    }

    private int commandAt(Commands commands, int context, int place) {
      int best = NONE;
      for (int k = 0; k < commands.size; k++) {
        if (commands.isOf(k, context) && standsAt(commands, k, place)
            && (best == NONE || commands.goesBefore(k, best))) {
          best = k;
        }
      }
      return best;
    }

    private boolean standsAt(Commands commands, int number, int place) {
      if (commands.lengths[number] > size - place) {
        return false;
      }
      for (int i = 0; i < commands.lengths[number]; i++) {
        if (row[place + i] != commands.labelAt(number, i)) {
          return false;
        }
      }
      return true;
    }
  }

  /** Rows of bytes, shorts or ints; all cells lie in one row, MOST_CELLS a sheet. */
  private static final class Sheets {
    static final int MOST = 4;
    static final int MOST_CELLS = 60;
    static final int BYTES = 0, SHORTS = 1, INTS = 2;

    final int[] lanes = new int[MOST];
    private final boolean[] made = new boolean[MOST];
    private final int[] sizes = new int[MOST];
    private final int[] cells = new int[MOST * MOST_CELLS];

    static boolean isNumber(int k) {
      return k >= 0 && k < MOST;
    }

    static boolean isLane(int lane) {
      return lane >= BYTES && lane <= INTS;
    }

    boolean isNothing(int k) {
      return !made[k];
    }

    void makeNew(int k, int lane, int n) {
      made[k] = true;
      lanes[k] = lane;
      sizes[k] = n;
      for (int i = 0; i < n; i++) {
        cells[k * MOST_CELLS + i] = 0;
      }
    }

    /** Whether there are n cells (1 at least) from cell f on; f may be any number. */
    boolean hasCells(int k, int f, int n) {
      return f >= 0 && f <= sizes[k] - n;
    }

    int cell(int k, int i) {
      return cells[k * MOST_CELLS + i];
    }

    void put(int k, int i, int v) {
      cells[k * MOST_CELLS + i] = lowestBits(lanes[k], v);
    }

    private static int lowestBits(int lane, int v) {
      if (lane == BYTES) {
        return (byte) v;
      }
      if (lane == SHORTS) {
        return (short) v;
      }
      return v;
    }
  }
}
