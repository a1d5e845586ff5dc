import java.util.Arrays;

/** Orders of sorting made coarser: ../shared/DOC.md tells each call; words in CAPITALS are its terms. */
public final class CoarserOrders {
  public static final int BAD = -1, FULL = -2, NONE = -3, STATE = -4;

  private static final int NO_STEP = -9, NOTHING = -11, OUTSIDE = -12, UNLIKE = -13;
  private static final int BELOW_ZERO = -14, PARTED = -15, FAULTY = -100;
  private static final int MOST_N = 6, FIRST_N = 4, MOST_SWAPPED = 15, MOST_DRAWN = 60;
  /** Above this N it is refused (STATE) to walk through all CLASSES; it has MOST_ROWS. */
  private static final int WALKED_N = 5, MOST_ROWS = 120;
  private static final int PLAIN = 0, LEFTY = 1, LONGER = 2, BOTH = 3, SIGNED = 4, MIXED = 5;
  /** EMS: how many values m may have. */
  private static final int KINDS = 6, EMS = 16, MOST_MAKERS = 6;
  private static final int ONLY_THESE = 0, THESE_TOO = 1, THESE_OF_GONE = 2;
  private static final int[] TENS = {1, 10, 100, 1000, 10000, 100000, 1000000};
  private static final int[] FACTORIALS = {1, 1, 2, 6, 24, 120, 720};
  private static final int[] KIND_ABOVE = {PLAIN, PLAIN, PLAIN, LEFTY, LEFTY, LONGER};

  /** The tables of each N, made when that N first comes and used again from then on. */
  private final Rows[] tables = new Rows[MOST_N + 1];
  private Rows rows;
  private long goneArcs = 0;
  private int lot = 1;
  private final Makers makers = new Makers();
  private final Tape tape = new Tape();
  private final Walks walks = new Walks();
  private final Listing listing = new Listing();
  private final Stairs stairs = new Stairs();
  private final Sheets sheets = new Sheets();
  private final Shelves shelves = new Shelves();
  private final Acts acts = new Acts();
  private final int[] lots = new int[MOST_N];
  private boolean isKept = false;
  private int keptN = FIRST_N;
  private long keptGone = 0;
  private int keptLot = 1;
  private final Makers keptMakers = new Makers();

  public CoarserOrders() {
    rows = new Rows(FIRST_N);
    tables[FIRST_N] = rows;
  }

  // ---- rows

  public int size(int v) {
    if (v < 1 || v > MOST_N) {
      return BAD;
    }
    int was = rows.n;
    if (v != was) {
      resize(v);
      goneArcs = 0;
    }
    return was;
  }

  private void resize(int n) {
    if (tables[n] == null) {
      tables[n] = new Rows(n);
    }
    rows = tables[n];
  }

  public int below(int row, int other) {
    int first = rows.find(row), second = rows.find(other);
    if (first < 0 || second < 0) {
      return BAD;
    }
    return rows.isBelow(first, second) ? 1 : 0;
  }

  public int meet(int row, int other) {
    int first = rows.find(row), second = rows.find(other);
    if (first < 0 || second < 0) {
      return BAD;
    }
    return rows.numbers[rows.meetOf(first, second)];
  }

  public int join(int row, int other) {
    int first = rows.find(row), second = rows.find(other);
    if (first < 0 || second < 0) {
      return BAD;
    }
    return rows.numbers[rows.joinOf(first, second)];
  }

  public int of(int row, int what) {
    int at = rows.find(row);
    if (at < 0) {
      return BAD;
    }
    switch (what) {
      case 0: return Integer.bitCount(rows.swapped[at]);
      case 1: return rows.drops[at];
      case 2: return at;
      case 3: return rows.turnedRound(at);
      default: return BAD;
    }
  }

  public int rowAt(int i) {
    return i < 0 || i >= rows.count ? BAD : rows.numbers[i];
  }

  public int jump(int row, int v, int d) {
    int at = rows.find(row);
    if (at < 0 || v < 1 || v > rows.n) {
      return BAD;
    }
    if (d <= -rows.n || d >= rows.n) {
      return NONE;
    }
    int came = rows.jumped(at, v, d);
    return came < 0 ? NONE : rows.numbers[came];
  }

  // ---- arcs

  private boolean isArc(int arc) {
    return arc >= 0 && arc < rows.arcs.count;
  }

  public int arc(int row, int p) {
    int at = rows.find(row);
    if (at < 0 || p < 0 || p >= rows.gaps) {
      return BAD;
    }
    return rows.arcAt[at * rows.gaps + p];
  }

  public int arcIs(int arc, int what) {
    if (!isArc(arc)) {
      return BAD;
    }
    Arcs arcs = rows.arcs;
    switch (what) {
      case 0: return arcs.low[arc];
      case 1: return arcs.high[arc];
      case 2: return arcs.left[arc];
      case 3: return (int) (goneArcs >>> arc & 1);
      case 4: return Long.bitCount(arcs.forced[arc]);
      case 5: return Long.bitCount(arcs.forcing[arc]);
      case 6: return arcs.leastRowWith(arc);
      default: return BAD;
    }
  }

  public int forces(int arc, int other) {
    if (!isArc(arc) || !isArc(other)) {
      return BAD;
    }
    return (int) (rows.arcs.forced[arc] >>> other & 1);
  }

  public long diagram(int row) {
    int at = rows.find(row);
    return at < 0 ? BAD : rows.diagrams[at];
  }

  public int rowOf(long arcs) {
    if ((arcs & ~rows.arcs.all) != 0) {
      return BAD;
    }
    int at = rows.withDiagram(arcs);
    return at < 0 ? NONE : rows.numbers[at];
  }

  // ---- what is gone

  public long gone() {
    return goneArcs;
  }

  public int contract(int arc) {
    if (!isArc(arc)) {
      return BAD;
    }
    goneArcs |= rows.arcs.forced[arc];
    return Long.bitCount(goneArcs);
  }

  public int restore(int arc) {
    if (!isArc(arc)) {
      return BAD;
    }
    goneArcs &= ~rows.arcs.forcing[arc];
    return Long.bitCount(goneArcs);
  }

  public int collapse(int row, int other) {
    int first = rows.find(row), second = rows.find(other);
    if (first < 0 || second < 0) {
      return BAD;
    }
    long between = rows.arcsBetween(rows.meetOf(first, second), rows.joinOf(first, second));
    return come(between, THESE_TOO);
  }

  public int maker(int kind, int m) {
    if (kind < 0 || kind >= KINDS || m < 0 || m >= EMS) {
      return BAD;
    }
    return makers.count >= MOST_MAKERS ? FULL : makers.add(kind, m);
  }

  public int makerIs(int maker, int what) {
    if (!makers.has(maker)) {
      return BAD;
    }
    switch (what) {
      case 0: return makers.kinds[maker];
      case 1: return makers.ems[maker];
      case 2: return Long.bitCount(takenBy(maker));
      default: return BAD;
    }
  }

  private long takenBy(int maker) {
    return Makers.takenBy(makers.kinds[maker], makers.ems[maker], rows.arcs);
  }

  public int make(int maker, int how) {
    if (!makers.has(maker) || how < ONLY_THESE || how > THESE_OF_GONE) {
      return BAD;
    }
    return come(takenBy(maker), how);
  }

  /** ARCS come that are TAKEN, HOW: how many are GONE then. */
  private int come(long taken, int how) {
    long these = rows.arcs.withForced(taken);
    if (how == ONLY_THESE) {
      goneArcs = these;
    } else if (how == THESE_TOO) {
      goneArcs |= these;
    } else {
      goneArcs &= these;
    }
    return Long.bitCount(goneArcs);
  }

  public int feed(long eight, int n) {
    if (n < 1 || n > 8) {
      return BAD;
    }
    return tape.hasRoomFor(n) ? tape.take(eight, n) : FULL;
  }

  public int text(int how) {
    if (how < ONLY_THESE || how > THESE_OF_GONE) {
      return BAD;
    }
    long held = tape.read(rows.arcs);
    return tape.fault >= 0 ? FAULTY - tape.fault : come(held, how);
  }

  public int clear() {
    int were = Long.bitCount(goneArcs);
    goneArcs = 0;
    return were;
  }

  // ---- classes

  public int alike(int row, int what) {
    int at = rows.find(row);
    if (at < 0) {
      return BAD;
    }
    switch (what) {
      case 0: return rows.numbers[rows.leastOf(at, goneArcs)];
      case 1: return rows.numbers[rows.greatestOf(at, goneArcs)];
      case 2: return rows.howManyAlike(at, goneArcs);
      default: return BAD;
    }
  }

  public int classAt(int i) {
    int at = i < 0 ? BAD : rows.leastRowAt(i, goneArcs);
    return at < 0 ? BAD : rows.numbers[at];
  }

  public int classes(int row, int other, int what) {
    int first = rows.find(row), second = rows.find(other);
    if (first < 0 || second < 0) {
      return BAD;
    }
    switch (what) {
      case 0: return rows.isBelow(rows.leastOf(first, goneArcs), rows.leastOf(second, goneArcs)) ? 1 : 0;
      case 1: return rows.numbers[rows.leastOf(rows.meetOf(first, second), goneArcs)];
      case 2: return rows.numbers[rows.leastOf(rows.joinOf(first, second), goneArcs)];
      default: return BAD;
    }
  }

  public int rotations(int row, int way) {
    int at = rows.find(row);
    if (at < 0 || way < 0 || way > 1) {
      return BAD;
    }
    return walks.findNear(rows, goneArcs, at, way);
  }

  public int rotate(int row, int k, int way) {
    int at = rows.find(row);
    if (at < 0 || k < 0 || way < 0 || way > 1) {
      return BAD;
    }
    return k < walks.findNear(rows, goneArcs, at, way) ? rows.numbers[walks.near[k]] : NONE;
  }

  public int apart(int row, int other) {
    int first = rows.find(row), second = rows.find(other);
    if (first < 0 || second < 0) {
      return BAD;
    }
    if (rows.n > WALKED_N) {
      return STATE;
    }
    return walks.stepsBetween(rows, goneArcs, first, second);
  }

  public int wayUp(int what) {
    if (what < 0 || what > 1) {
      return BAD;
    }
    return rows.n > WALKED_N ? STATE : walks.stepsUp(rows, goneArcs, what == 0);
  }

  public int listed(int i) {
    if (i < 0) {
      return BAD;
    }
    if (rows.n > WALKED_N) {
      return STATE;
    }
    listing.bringUpTo(rows, goneArcs);
    return i < listing.count ? rows.numbers[listing.came[i]] : NONE;
  }

  public int closed(int what) {
    if (what < 0 || what > 1) {
      return BAD;
    }
    if (rows.n > WALKED_N) {
      return STATE;
    }
    return rows.arcs.closedSets(what == 0 ? rows.arcs.all : rows.arcs.all & ~goneArcs);
  }

  public int whatIs(int sheet, int what) {
    if (!sheets.has(sheet) || what < 0 || what > 1) {
      return BAD;
    }
    int refused = sheets.refusal(sheet, Sheets.INTS);
    if (refused < 0) {
      return refused;
    }
    int many = 0;
    long latestGone = -1;
    boolean fits = false;
    for (int pair = 0; pair < KINDS * EMS; pair++) {
      long wouldBeGone = rows.arcs.withForced(Makers.takenBy(pair / EMS, pair % EMS, rows.arcs));
      // Neighbouring pairs often take the same ARCS, and the threes are dear to look through.
      if (wouldBeGone != latestGone) {
        fits = fitsThrees(sheet, wouldBeGone);
        latestGone = wouldBeGone;
      }
      if (fits && what == 1) {
        return pair;
      }
      many += fits ? 1 : 0;
    }
    return what == 0 ? many : NONE;
  }

  /** Whether all threes of a SHEET of ints are so, if those ARCS are GONE. */
  private boolean fitsThrees(int sheet, long gone) {
    int n = sheets.lengths[sheet];
    if (n % 3 != 0) {
      return false;
    }
    for (int i = 0; i + 2 < n; i += 3) {
      int first = rows.find((int) sheets.items[sheet][i]);
      int second = rows.find((int) sheets.items[sheet][i + 1]);
      if (first < 0 || second < 0) {
        return false;
      }
      boolean areAlike = rows.leastOf(first, gone) == rows.leastOf(second, gone);
      if (sheets.items[sheet][i + 2] != (areAlike ? 1 : 0)) {
        return false;
      }
    }
    return true;
  }

  // ---- lots, stairs

  public int seed(int v) {
    int was = lot;
    lot = v;
    return was;
  }

  public int drawn(int n) {
    if (n < 1 || n > MOST_DRAWN) {
      return BAD;
    }
    int least = 0;
    for (int i = 0; i < n; i++) {
      int at = rows.find(drawRow());
      least += at >= 0 && rows.isLeast(at, goneArcs) ? 1 : 0;
    }
    return least;
  }

  /** The next ROW BY LOT, as a number. */
  private int drawRow() {
    int n = rows.n;
    for (int p = 0; p < n; p++) {
      lots[p] = p + 1;
    }
    for (int p = n - 1; p > 0; p--) {
      lot = lot * 1103515245 + 12345;
      int other = (lot >>> 16) % (p + 1);
      int v = lots[p];
      lots[p] = lots[other];
      lots[other] = v;
    }
    int number = 0;
    for (int p = 0; p < n; p++) {
      number = number * 10 + lots[p];
    }
    return number;
  }

  public int prove(int row) {
    int at = rows.find(row);
    return at < 0 ? BAD : stairs.goDown(rows, goneArcs, at);
  }

  public int step(int i, int what) {
    return stairs.has(i, what) ? stairs.told[i * 2 + what] : NO_STEP;
  }

  public int alterStep(int i, int what, int v) {
    if (!stairs.has(i, what)) {
      return NO_STEP;
    }
    int was = stairs.told[i * 2 + what];
    stairs.told[i * 2 + what] = v;
    return was;
  }

  public int judge(int row) {
    int at = rows.find(row);
    return at < 0 ? BAD : stairs.firstWrong(rows, goneArcs, at);
  }

  // ---- the host

  public int sheet(int sheet, int sort, int n) {
    if (!sheets.has(sheet) || sort < Sheets.MISSING || sort > Sheets.LONGS) {
      return BAD;
    }
    if (sort == Sheets.MISSING) {
      return sheets.renew(sheet, sort, 0);
    }
    if (n > Sheets.MOST_ITEMS) {
      return BAD;
    }
    return n < 0 ? BELOW_ZERO : sheets.renew(sheet, sort, n);
  }

  public int put(int sheet, int i, long v) {
    if (!sheets.has(sheet)) {
      return BAD;
    }
    if (sheets.sorts[sheet] == Sheets.MISSING) {
      return NOTHING;
    }
    if (i < 0 || i >= sheets.lengths[sheet]) {
      return OUTSIDE;
    }
    sheets.items[sheet][i] = Sheets.narrowed(v, sheets.sorts[sheet]);
    return 1;
  }

  public int item(int sheet, int sort, int i) {
    if (!sheets.has(sheet) || sort < Sheets.BYTES || sort > Sheets.LONGS) {
      return BAD;
    }
    int refused = sheets.refusal(sheet, sort);
    if (refused < 0) {
      return refused;
    }
    return i < 0 || i >= sheets.lengths[sheet] ? OUTSIDE : (int) sheets.items[sheet][i];
  }

  public int move(int sheet, int i, int other, int j, int n) {
    if (!sheets.has(sheet) || !sheets.has(other)) {
      return BAD;
    }
    if (sheets.sorts[sheet] == Sheets.MISSING || sheets.sorts[other] == Sheets.MISSING) {
      return NOTHING;
    }
    if (sheets.sorts[sheet] != sheets.sorts[other]) {
      return UNLIKE;
    }
    if (!sheets.reaches(sheet, i, n) || !sheets.reaches(other, j, n)) {
      return OUTSIDE;
    }
    System.arraycopy(sheets.items[sheet], i, sheets.items[other], j, n);
    return n;
  }

  public int rowFrom(int sheet, int i) {
    if (!sheets.has(sheet)) {
      return BAD;
    }
    int refused = sheets.refusal(sheet, Sheets.BYTES);
    if (refused < 0) {
      return refused;
    }
    if (!sheets.reaches(sheet, i, rows.n)) {
      return OUTSIDE;
    }
    int number = 0;
    for (int p = 0; p < rows.n; p++) {
      long v = sheets.items[sheet][i + p];
      if (v < 1 || v > rows.n) {
        return NONE;
      }
      number = number * 10 + (int) v;
    }
    return rows.find(number) < 0 ? NONE : number;
  }

  public int shelf(int shelf, int what, int n) {
    if (!shelves.has(shelf)) {
      return BAD;
    }
    switch (what) {
      case 0: return makers.has(n) ? shelves.holdMaker(shelf, n) : BAD;
      case 1: return sheets.has(n) ? shelves.holdRow(shelf, sheets.sorts[n], sheets.lengths[n]) : BAD;
      case 2: return shelves.holdNothing(shelf);
      default: return BAD;
    }
  }

  /** What a SHELF holds now: a MAKER that is no more is nothing. */
  private int heldOn(int shelf) {
    boolean isLost = shelves.held[shelf] == Shelves.A_MAKER && !makers.has(shelves.things[shelf]);
    return isLost ? Shelves.EMPTY : shelves.held[shelf];
  }

  public int taken(int shelf, int as) {
    boolean asMaker = as >= 0 && as < KINDS;
    boolean asRow = as >= 10 + Sheets.BYTES && as <= 10 + Sheets.LONGS;
    if (!shelves.has(shelf) || !asMaker && !asRow) {
      return BAD;
    }
    int held = heldOn(shelf), thing = shelves.things[shelf];
    if (held == Shelves.EMPTY) {
      return NOTHING;
    }
    if (held == Shelves.A_MAKER) {
      return asMaker && Makers.isUnder(makers.kinds[thing], as) ? thing : UNLIKE;
    }
    return asRow && thing == as - 10 ? shelves.lengths[shelf] : UNLIKE;
  }

  public int act(int shelf, int act, int x) {
    acts.forget();
    if (!shelves.has(shelf) || act < 0 || act >= Acts.ACTS || heldOn(shelf) != Shelves.A_MAKER) {
      return 0;
    }
    int maker = shelves.things[shelf];
    return acts.perform(makers.kinds[maker], makers.ems[maker], maker, act, x);
  }

  public int trace(int i) {
    return i < 0 || i >= acts.traced ? NONE : acts.bodies[i];
  }

  public int many(int what) {
    switch (what) {
      case 0: return rows.n;
      case 1: return rows.arcs.count;
      case 2: return Long.bitCount(goneArcs);
      case 3: return rows.howManyClasses(goneArcs);
      case 4: return rows.howManyRightUnder(goneArcs);
      case 5: return makers.count;
      case 6: return stairs.count;
      case 7: return tape.count;
      case 8: return acts.traced;
      default: return BAD;
    }
  }

  // ---- kept

  public int keep() {
    isKept = true;
    keptN = rows.n;
    keptGone = goneArcs;
    keptLot = lot;
    keptMakers.becomeLike(makers);
    return 1;
  }

  public int again() {
    if (!isKept) {
      return NONE;
    }
    resize(keptN);
    goneArcs = keptGone;
    lot = keptLot;
    makers.becomeLike(keptMakers);
    return Long.bitCount(goneArcs);
  }

  /** The ARCS of N numbers; sets of them are bits of longs. */
  private static final class Arcs {
    final int n, count;
    final long all;
    final int[] low, high, left;
    /** How many between are LEFT, and how many are not. */
    final int[] lefts, rights;
    /** Of each ARC those that it FORCES, and those that FORCE it. */
    final long[] forced, forcing;
    /** The first ARC of a, b, at a * 7 + b. */
    final int[] firsts = new int[49];
    /** ARCS that FORCE none but themselves. */
    final long idle;

    Arcs(int n) {
      this.n = n;
      count = (1 << n) - n - 1;
      all = (1L << count) - 1;
      low = new int[count];
      high = new int[count];
      left = new int[count];
      lefts = new int[count];
      rights = new int[count];
      forced = new long[count];
      forcing = new long[count];
      numberArcs();
      relateArcs();
      long alone = 0;
      for (int arc = 0; arc < count; arc++) {
        alone |= Long.bitCount(forced[arc]) == 1 ? 1L << arc : 0;
      }
      idle = alone;
    }

    private void numberArcs() {
      int arc = 0;
      for (int a = 1; a < n; a++) {
        for (int b = a + 1; b <= n; b++) {
          firsts[a * 7 + b] = arc;
          for (int l = 0; l < 1 << (b - a - 1); l++) {
            low[arc] = a;
            high[arc] = b;
            left[arc] = l;
            lefts[arc] = Integer.bitCount(l);
            rights[arc] = b - a - 1 - lefts[arc];
            arc++;
          }
        }
      }
    }

    private void relateArcs() {
      for (int arc = 0; arc < count; arc++) {
        for (int other = 0; other < count; other++) {
          if (lastsIn(arc, other)) {
            forced[arc] |= 1L << other;
            forcing[other] |= 1L << arc;
          }
        }
      }
    }

    /** Whether the other ARC spans this one and tells the same of each number within this one. */
    private boolean lastsIn(int arc, int other) {
      if (low[other] > low[arc] || high[other] < high[arc]) {
        return false;
      }
      int within = (1 << (high[arc] - low[arc] - 1)) - 1;
      return (left[other] >> (low[arc] - low[other]) & within) == left[arc];
    }

    int numberOf(int a, int b, int leftOnes) {
      return firsts[a * 7 + b] + leftOnes;
    }

    long withForced(long set) {
      long those = set;
      for (int arc = 0; arc < count; arc++) {
        if ((set >>> arc & 1) != 0) {
          those |= forced[arc];
        }
      }
      return those;
    }

    /** The ROW, as a number, that has a DROP of the ARC and is BELOW all that have one. */
    int leastRowWith(int arc) {
      int number = 0;
      for (int v = 1; v < low[arc]; v++) {
        number = number * 10 + v;
      }
      number = withBetween(number, arc, 1);
      number = number * 100 + high[arc] * 10 + low[arc];
      number = withBetween(number, arc, 0);
      for (int v = high[arc] + 1; v <= n; v++) {
        number = number * 10 + v;
      }
      return number;
    }

    private int withBetween(int number, int arc, int isLeft) {
      int longer = number;
      for (int v = low[arc] + 1; v < high[arc]; v++) {
        if ((left[arc] >> (v - low[arc] - 1) & 1) == isLeft) {
          longer = longer * 10 + v;
        }
      }
      return longer;
    }

    /** How many closed sets there are, where the ARCS that are not open have been decided on. */
    int closedSets(long open) {
      return countClosed(this, open, 0);
    }

    private static int countClosed(Arcs arcs, long open, int depth) {
      long pivots = open & ~arcs.idle;
      // Idle ones bind nothing that is still open: each may be in or out.
      if (pivots == 0 || depth >= arcs.count) {
        return 1 << Long.bitCount(open);
      }
      int arc = Long.numberOfTrailingZeros(pivots);
      return countClosed(arcs, open & ~arcs.forced[arc], depth + 1)
          + countClosed(arcs, open & ~arcs.forcing[arc], depth + 1);
    }
  }

  /** The ROWS of N numbers, told by how many are less as numbers; tables of a row and a gap are by row * gaps + gap. */
  private static final class Rows {
    final int n, count;
    /** Places p that have a place p + 1. */
    final int gaps;
    final Arcs arcs;
    final int[] numbers;
    /** Pairs of numbers that are SWAPPED, as bits. */
    final int[] swapped;
    final int[] drops;
    final long[] diagrams;
    final int[] arcAt;
    /** The ROW in which the two numbers at a gap have changed places. */
    final int[] beside;

    Rows(int n) {
      this.n = n;
      count = FACTORIALS[n];
      gaps = n - 1;
      arcs = new Arcs(n);
      numbers = new int[count];
      swapped = new int[count];
      drops = new int[count];
      diagrams = new long[count];
      arcAt = new int[count * gaps];
      beside = new int[count * gaps];
      for (int row = 0; row < count; row++) {
        numbers[row] = numberAt(row);
      }
      int[] places = new int[n];
      for (int row = 0; row < count; row++) {
        for (int p = 0; p < n; p++) {
          places[p] = valueAt(row, p);
        }
        fillSwapped(row, places);
        fillGaps(row, places);
      }
    }

    /** The number of the ROW as which so many are less. */
    private int numberAt(int index) {
      int rest = index, used = 0, number = 0;
      for (int p = 0; p < n; p++) {
        int each = FACTORIALS[n - 1 - p];
        int v = freeValue(used, rest / each);
        rest %= each;
        used |= 1 << v;
        number = number * 10 + v;
      }
      return number;
    }

    private int freeValue(int used, int skipped) {
      int toSkip = skipped;
      for (int v = 1; v <= n; v++) {
        if ((used >> v & 1) == 0) {
          if (toSkip == 0) {
            return v;
          }
          toSkip--;
        }
      }
      return n;
    }

    private void fillSwapped(int row, int[] places) {
      for (int p = 0; p < n; p++) {
        for (int q = p + 1; q < n; q++) {
          int lesser = places[q], greater = places[p];
          if (greater > lesser) {
            swapped[row] |= 1 << ((greater - 1) * (greater - 2) / 2 + lesser - 1);
          }
        }
      }
    }

    private void fillGaps(int row, int[] places) {
      for (int p = 0; p < gaps; p++) {
        int arc = arcIn(places, p);
        arcAt[row * gaps + p] = arc;
        if (places[p] > places[p + 1]) {
          drops[row] |= 1 << p;
          diagrams[row] |= 1L << arc;
        }
        // Two digits beside one another differ by 9 in what their places are worth.
        beside[row * gaps + p] = find(numbers[row] + (places[p + 1] - places[p]) * 9 * TENS[n - 2 - p]);
      }
    }

    private int arcIn(int[] places, int p) {
      int a = Math.min(places[p], places[p + 1]), b = Math.max(places[p], places[p + 1]);
      int left = 0;
      for (int q = 0; q < p; q++) {
        int v = places[q];
        if (v > a && v < b) {
          left |= 1 << (v - a - 1);
        }
      }
      return arcs.numberOf(a, b, left);
    }

    /** Which ROW a number tells; BAD, if it tells none. */
    int find(int number) {
      int from = 0, to = count - 1;
      for (int i = 0; i < count && from <= to; i++) {
        int middle = (from + to) / 2;
        if (numbers[middle] == number) {
          return middle;
        }
        if (numbers[middle] < number) {
          from = middle + 1;
        } else {
          to = middle - 1;
        }
      }
      return BAD;
    }

    int valueAt(int row, int p) {
      return numbers[row] / TENS[n - 1 - p] % 10;
    }

    int turnedRound(int row) {
      int number = 0;
      for (int p = n - 1; p >= 0; p--) {
        number = number * 10 + valueAt(row, p);
      }
      return number;
    }

    boolean isBelow(int row, int other) {
      return (swapped[row] & ~swapped[other]) == 0;
    }

    /** A ROW is never less as a number than one that is BELOW it: so the last of those BELOW both is their MEET. */
    int meetOf(int row, int other) {
      for (int lower = Math.min(row, other); lower > 0; lower--) {
        if (isBelow(lower, row) && isBelow(lower, other)) {
          return lower;
        }
      }
      return 0;
    }

    int joinOf(int row, int other) {
      for (int upper = Math.max(row, other); upper < count; upper++) {
        if (isBelow(row, upper) && isBelow(other, upper)) {
          return upper;
        }
      }
      return count - 1;
    }

    private boolean isDrop(int row, int gap) {
      return (drops[row] >> gap & 1) != 0;
    }

    private int placeOf(int row, int v) {
      for (int p = 0; p < gaps; p++) {
        if (valueAt(row, p) == v) {
          return p;
        }
      }
      return gaps;
    }

    /** The ROW behind a JUMP of v by d places, less than N; BAD, if it may not be. */
    int jumped(int row, int v, int d) {
      int side = d < 0 ? -1 : 1, place = placeOf(row, v), now = row;
      for (int k = 0; k < Math.abs(d) && now >= 0; k++) {
        now = passed(now, place, side);
        place += side;
      }
      return now;
    }

    /** The ROW in which what is at a place has passed its neighbour on that side; BAD, if that is none or not less. */
    private int passed(int row, int place, int side) {
      int gap = side < 0 ? place - 1 : place;
      if (gap < 0 || gap >= gaps || isDrop(row, gap) != side > 0) {
        return BAD;
      }
      return beside[row * gaps + gap];
    }

    /** By the nearest JUMP of v to that side that leads to one, a ROW that is LEAST of itself; else BAD. */
    int nearestLeast(int row, int v, int side, long gone) {
      int place = placeOf(row, v), now = row;
      for (int k = 0; k < n; k++) {
        now = passed(now, place, side);
        place += side;
        if (now < 0 || isLeast(now, gone)) {
          return now;
        }
      }
      return BAD;
    }

    int withDiagram(long set) {
      for (int row = 0; row < count; row++) {
        if (diagrams[row] == set) {
          return row;
        }
      }
      return BAD;
    }

    /** ARCS of all swaps of one way from the upper ROW down to a lower one that is BELOW it. */
    long arcsBetween(int lower, int upper) {
      long set = 0;
      int now = upper;
      for (int i = 0; i < MOST_SWAPPED && now != lower; i++) {
        for (int p = 0; p < gaps; p++) {
          int next = beside[now * gaps + p];
          if (isDrop(now, p) && isBelow(lower, next)) {
            set |= 1L << arcAt[now * gaps + p];
            now = next;
            break;
          }
        }
      }
      return set;
    }

    /** The first of these gaps (a set) that has an ARC which is GONE; BAD, if there is none. */
    int firstGone(int row, int among, long gone) {
      for (int p = 0; p < gaps; p++) {
        if ((among >> p & 1) != 0 && (gone >>> arcAt[row * gaps + p] & 1) != 0) {
          return p;
        }
      }
      return BAD;
    }

    boolean isLeast(int row, long gone) {
      return (diagrams[row] & gone) == 0;
    }

    int leastOf(int row, long gone) {
      int now = row;
      for (int i = 0; i < MOST_SWAPPED; i++) {
        int gap = firstGone(now, drops[now], gone);
        if (gap < 0) {
          return now;
        }
        now = beside[now * gaps + gap];
      }
      return now;
    }

    int greatestOf(int row, long gone) {
      int now = row;
      for (int i = 0; i < MOST_SWAPPED; i++) {
        int gap = firstGone(now, ~drops[now], gone);
        if (gap < 0) {
          return now;
        }
        now = beside[now * gaps + gap];
      }
      return now;
    }

    /** Those ALIKE are all that stand between their LEAST and their GREATEST. */
    int howManyAlike(int row, long gone) {
      int least = leastOf(row, gone), greatest = greatestOf(row, gone), many = 0;
      for (int other = least; other <= greatest; other++) {
        many += isBelow(least, other) && isBelow(other, greatest) ? 1 : 0;
      }
      return many;
    }

    /** The ROW, LEAST of itself, as which i such are less; BAD, if there is none. */
    int leastRowAt(int i, long gone) {
      int ahead = 0;
      for (int row = 0; row < count; row++) {
        if (isLeast(row, gone)) {
          if (ahead == i) {
            return row;
          }
          ahead++;
        }
      }
      return BAD;
    }

    int howManyClasses(long gone) {
      int many = 0;
      for (int row = 0; row < count; row++) {
        many += isLeast(row, gone) ? 1 : 0;
      }
      return many;
    }

    /** Each DROP of a LEAST ROW leads to another CLASS, RIGHT UNDER its own. */
    int howManyRightUnder(long gone) {
      int many = 0;
      for (int row = 0; row < count; row++) {
        many += isLeast(row, gone) ? Integer.bitCount(drops[row]) : 0;
      }
      return many;
    }
  }

  /** Steps from CLASS to CLASS; a CLASS is told by its LEAST ROW. */
  private static final class Walks {
    /** The CLASSES that findNear() found, by LEAST ROWS as numbers. */
    final int[] near = new int[MOST_N];
    private final int[] steps = new int[MOST_ROWS];
    private final int[] queue = new int[MOST_ROWS];

    /** Finds the CLASSES RIGHT UNDER that of a ROW (way 0), or which it is RIGHT UNDER (1): how many. */
    int findNear(Rows rows, long gone, int row, int way) {
      int from = way == 0 ? rows.leastOf(row, gone) : rows.greatestOf(row, gone);
      int among = way == 0 ? rows.drops[from] : ~rows.drops[from];
      int many = 0;
      for (int p = 0; p < rows.gaps; p++) {
        if ((among >> p & 1) != 0) {
          insertNear(rows.leastOf(rows.beside[from * rows.gaps + p], gone), many);
          many++;
        }
      }
      return many;
    }

    private void insertNear(int least, int many) {
      int at = many;
      for (int i = 0; i < many && near[at - 1] > least; i++) {
        near[at] = near[at - 1];
        at--;
      }
      near[at] = least;
    }

    int stepsBetween(Rows rows, long gone, int row, int other) {
      int to = rows.leastOf(other, gone);
      Arrays.fill(steps, BAD);
      queue[0] = rows.leastOf(row, gone);
      steps[queue[0]] = 0;
      int queued = 1;
      for (int i = 0; i < MOST_ROWS && i < queued && steps[to] < 0; i++) {
        queued = reach(queue[i], findNear(rows, gone, queue[i], 0), queued);
        queued = reach(queue[i], findNear(rows, gone, queue[i], 1), queued);
      }
      return steps[to];
    }

    private int reach(int from, int many, int queued) {
      int longer = queued;
      for (int k = 0; k < many; k++) {
        if (steps[near[k]] < 0) {
          steps[near[k]] = steps[from] + 1;
          queue[longer] = near[k];
          longer++;
        }
      }
      return longer;
    }

    /** The most (or fewest) steps of a WAY UP: a CLASS comes behind all that are UNDER it. */
    int stepsUp(Rows rows, long gone, boolean most) {
      steps[0] = 0;
      for (int row = 1; row < rows.count; row++) {
        if (rows.isLeast(row, gone)) {
          steps[row] = stepsUpTo(findNear(rows, gone, row, 0), most);
        }
      }
      return steps[rows.leastOf(rows.count - 1, gone)];
    }

    private int stepsUpTo(int many, boolean most) {
      int best = BAD;
      for (int k = 0; k < many; k++) {
        int those = steps[near[k]] + 1;
        if (best < 0 || (most ? those > best : those < best)) {
          best = those;
        }
      }
      return best;
    }
  }

  /** THE LIST, kept as long as N and what is GONE stay the same. */
  private static final class Listing {
    int count = 0;
    final int[] came = new int[MOST_ROWS];
    private final int[] seen = new int[MOST_ROWS];
    private int forN = 0;
    private long forGone = 0;

    void bringUpTo(Rows rows, long gone) {
      if (rows.n == forN && gone == forGone) {
        return;
      }
      forN = rows.n;
      forGone = gone;
      Arrays.fill(seen, 0);
      count = 0;
      int next = 0;
      for (int i = 0; i < MOST_ROWS && next >= 0; i++) {
        came[i] = next;
        seen[next] = 1;
        count++;
        next = nextBehind(rows, next, gone);
      }
    }

    private int nextBehind(Rows rows, int row, long gone) {
      for (int v = rows.n; v >= 2; v--) {
        for (int side = -1; side <= 1; side += 2) {
          int next = rows.nearestLeast(row, v, side, gone);
          if (next >= 0 && seen[next] == 0) {
            return next;
          }
        }
      }
      return BAD;
    }
  }

  /** MAKERS by their numbers. */
  private static final class Makers {
    int count = 0;
    final int[] kinds = new int[MOST_MAKERS];
    final int[] ems = new int[MOST_MAKERS];

    boolean has(int maker) {
      return maker >= 0 && maker < count;
    }

    int add(int kind, int m) {
      kinds[count] = kind;
      ems[count] = m;
      count++;
      return count - 1;
    }

    void becomeLike(Makers other) {
      count = other.count;
      System.arraycopy(other.kinds, 0, kinds, 0, MOST_MAKERS);
      System.arraycopy(other.ems, 0, ems, 0, MOST_MAKERS);
    }

    static boolean isUnder(int kind, int as) {
      int now = kind;
      for (int i = 0; i < KINDS && now != as; i++) {
        now = KIND_ABOVE[now];
      }
      return now == as;
    }

    static long takenBy(int kind, int m, Arcs arcs) {
      long set = 0;
      for (int arc = 0; arc < arcs.count; arc++) {
        set |= takes(kind, m, arcs, arc) ? 1L << arc : 0;
      }
      return set;
    }

    private static boolean takes(int kind, int m, Arcs arcs, int arc) {
      int l = arcs.lefts[arc], r = arcs.rights[arc];
      int length = arcs.high[arc] - arcs.low[arc];
      switch (kind) {
        case LEFTY: return l > 0;
        case LONGER: return length > m;
        case BOTH: return l > 0 && r > 0;
        case SIGNED: return (arcs.left[arc] ^ signsWithin(m, arcs.low[arc], length)) != 0;
        case MIXED: return length > m || l > r;
        default: return false;
      }
    }

    /** Bits of m for the numbers between a and b, as LEFT numbers them. */
    private static int signsWithin(int m, int a, int length) {
      return m >> (a - 1) & ((1 << (length - 1)) - 1);
    }
  }

  /** ACTS of MAKERS, and THE TRACE of the latest. */
  private static final class Acts {
    static final int TURNS = 0, BENDS = 1, PARTS = 2, JOINS = 3, ACTS = 4;
    private static final int MOST_TRACED = 30, DEEPEST = 20;
    /** The body of each KIND for each ACT; 0, where it has none of its own. */
    private static final int[] OWN_BODIES = {
      10, 11, 12, 13,  20, 0, 0, 0,  0, 30, 31, 0,  40, 0, 0, 0,  0, 0, 0, 50,  0, 0, 60, 61};

    int traced = 0;
    final int[] bodies = new int[MOST_TRACED];
    private int kind, m, number;
    private boolean isParted;

    void forget() {
      traced = 0;
    }

    int perform(int itsKind, int itsM, int itsNumber, int act, int x) {
      kind = itsKind;
      m = itsM;
      number = itsNumber;
      isParted = false;
      int answer = own(act, x, 0);
      return isParted ? PARTED : answer;
    }

    private static int bodyFrom(int kind, int act) {
      int now = kind;
      for (int i = 0; i < KINDS && OWN_BODIES[now * ACTS + act] == 0; i++) {
        now = KIND_ABOVE[now];
      }
      return OWN_BODIES[now * ACTS + act];
    }

    private int own(int act, int x, int depth) {
      return run(bodyFrom(kind, act), x, depth + 1);
    }

    private int above(int bodysKind, int act, int x, int depth) {
      return run(bodyFrom(KIND_ABOVE[bodysKind], act), x, depth + 1);
    }

    private int run(int body, int x, int depth) {
      // Behind a parting by 0 nothing begins any more.
      if (isParted || depth > DEEPEST) {
        return 0;
      }
      if (traced < MOST_TRACED) {
        bodies[traced] = body;
        traced++;
      }
      switch (body) {
        case 10: return x * 5 + number;
        case 11: return own(TURNS, x, depth) - m;
        case 12: return partedBy(x, m - number);
        case 13: return own(BENDS, x, depth) ^ own(PARTS, x + 1, depth);
        case 20: return above(LEFTY, TURNS, x, depth) ^ 9;
        case 30: return above(LONGER, BENDS, x, depth) * 3;
        case 31: return above(LONGER, PARTS, x, depth) + own(TURNS, number, depth);
        case 40: return 0 - above(BOTH, TURNS, x + 2, depth);
        case 50: return above(SIGNED, JOINS, x, depth) - own(BENDS, m, depth);
        case 60: return above(MIXED, PARTS, x - m, depth) ^ 5;
        case 61: return above(MIXED, JOINS, x, depth) + own(BENDS, 1, depth);
        default: return 0;
      }
    }

    private int partedBy(int x, int by) {
      if (by == 0) {
        isParted = true;
        return 0;
      }
      return x / by;
    }
  }

  /** THE TAPE, and what reads it as a TEXT: a COND is told by the set of the ARCS for which it holds. */
  private static final class Tape {
    private static final int MOST_BYTES = 200, MOST_OPEN = 3, MOST_DIGITS = 4;
    /** What a word is; signs are told by their bytes. */
    private static final int THE_END = 0, NUMBER = 1, LOW = 2, HIGH = 3, LEFT = 4, RIGHT = 5, LAST = 6;
    private static final int AND = 7, OR = 8, NOT = 9, STRANGE = 10;

    int count = 0;
    /** The FAULT of the latest TEXT, or BAD, if it had none. */
    int fault = BAD;
    private final int[] bytes = new int[MOST_BYTES];
    /** The words on THE TAPE (the last is THE_END): what each is, the byte it begins at, the worth of a NUMBER. */
    private final int[] words = new int[MOST_BYTES + 1];
    private final int[] begins = new int[MOST_BYTES + 1];
    private final int[] worths = new int[MOST_BYTES + 1];
    /** The word that the reading stands at: it never goes on from THE_END, nor from a fault. */
    private int at;
    private Arcs arcs;

    boolean hasRoomFor(int n) {
      return count + n <= MOST_BYTES;
    }

    int take(long eight, int n) {
      for (int i = 0; i < n; i++) {
        bytes[count] = (int) (eight >>> (8 * i) & 255);
        count++;
      }
      return count;
    }

    /** Uses THE TAPE up: the ARCS for which it holds, or a fault. */
    long read(Arcs ofThese) {
      splitIntoWords();
      count = 0;
      arcs = ofThese;
      fault = BAD;
      at = 0;
      long held = anyOf(0);
      pass(words[at] == THE_END);
      return held;
    }

    private void splitIntoWords() {
      int many = 0, begin = 0;
      for (int i = 0; i < MOST_BYTES && begin < count; i++) {
        int end = endOfWord(begin);
        if (bytes[begin] != ' ') {
          begins[many] = begin;
          words[many] = wordAt(begin, end);
          worths[many] = words[many] == NUMBER ? worthOf(begin, end) : 0;
          many++;
        }
        begin = end;
      }
      begins[many] = count;
      words[many] = THE_END;
    }

    private int endOfWord(int begin) {
      int end = begin + 1;
      if (isDigit(bytes[begin])) {
        while (end < count && isDigit(bytes[end])) {
          end++;
        }
      } else if (isLetter(bytes[begin])) {
        while (end < count && isLetter(bytes[end])) {
          end++;
        }
      }
      return end;
    }

    private int wordAt(int begin, int end) {
      int first = bytes[begin];
      if (isDigit(first)) {
        return end - begin <= MOST_DIGITS ? NUMBER : STRANGE;
      }
      if (isLetter(first)) {
        return nameAt(begin, end);
      }
      boolean isSign = first == '(' || first == ')' || first == '<' || first == '=' || first == '>';
      return isSign ? first : STRANGE;
    }

    private int worthOf(int begin, int end) {
      int worth = 0;
      for (int i = begin; i < end; i++) {
        worth = worth * 10 + bytes[i] - '0';
      }
      return worth;
    }

    private int nameAt(int begin, int end) {
      return isName("low", begin, end) ? LOW
          : isName("high", begin, end) ? HIGH
          : isName("left", begin, end) ? LEFT
          : isName("right", begin, end) ? RIGHT
          : isName("last", begin, end) ? LAST
          : isName("and", begin, end) ? AND
          : isName("or", begin, end) ? OR
          : isName("not", begin, end) ? NOT : STRANGE;
    }

    private boolean isName(String name, int begin, int end) {
      if (end - begin != name.length()) {
        return false;
      }
      for (int i = 0; i < name.length(); i++) {
        if (bytes[begin + i] != name.charAt(i)) {
          return false;
        }
      }
      return true;
    }

    private static boolean isDigit(int b) {
      return b >= '0' && b <= '9';
    }

    private static boolean isLetter(int b) {
      return b >= 'a' && b <= 'z';
    }

    /** Goes on to the next word, if this one can stand where it does; the first that can't is the FAULT. */
    private void pass(boolean canStand) {
      if (fault < 0 && !canStand) {
        fault = begins[at];
      }
      if (fault < 0 && words[at] != THE_END) {
        at++;
      }
    }

    private long anyOf(int open) {
      long held = allOf(open);
      for (int i = 0; i < MOST_BYTES && fault < 0 && words[at] == OR; i++) {
        pass(true);
        held |= allOf(open);
      }
      return held;
    }

    private long allOf(int open) {
      long held = oneOf(open);
      for (int i = 0; i < MOST_BYTES && fault < 0 && words[at] == AND; i++) {
        pass(true);
        held &= oneOf(open);
      }
      return held;
    }

    private long oneOf(int open) {
      boolean isTurned = false;
      for (int i = 0; i < MOST_BYTES && fault < 0 && words[at] == NOT; i++) {
        isTurned = !isTurned;
        pass(true);
      }
      long held = 0;
      if (words[at] == '(' && open < MOST_OPEN) {
        pass(true);
        held = anyOf(open + 1);
        pass(words[at] == ')');
      } else {
        held = compared();
      }
      return isTurned ? arcs.all & ~held : held;
    }

    private long compared() {
      int first = at;
      pass(isValue(words[at]));
      int sign = words[at];
      pass(sign == '<' || sign == '=' || sign == '>');
      int second = at;
      pass(isValue(words[at]));
      long held = 0;
      for (int arc = 0; arc < arcs.count; arc++) {
        held |= holds(factOf(arc, first), sign, factOf(arc, second)) ? 1L << arc : 0;
      }
      return held;
    }

    private static boolean isValue(int word) {
      return word >= NUMBER && word <= LAST;
    }

    private static boolean holds(int left, int sign, int right) {
      return sign == '<' ? left < right : sign == '=' ? left == right : left > right;
    }

    private int factOf(int arc, int place) {
      switch (words[place]) {
        case LOW: return arcs.low[arc];
        case HIGH: return arcs.high[arc];
        case LEFT: return arcs.lefts[arc];
        case RIGHT: return arcs.rights[arc];
        case LAST: return arcs.n;
        default: return worths[place];
      }
    }
  }

  /** STEPS of STAIRS, and THE READER. */
  private static final class Stairs {
    int count = 0;
    /** Of STEP i the ROW, as a number, at i * 2, and the ARC behind it. */
    final int[] told = new int[2 * MOST_SWAPPED];

    boolean has(int i, int what) {
      return i >= 0 && i < count && what >= 0 && what <= 1;
    }

    int goDown(Rows rows, long gone, int from) {
      int now = from;
      count = 0;
      for (int i = 0; i < MOST_SWAPPED; i++) {
        int gap = rows.firstGone(now, rows.drops[now], gone);
        if (gap < 0) {
          break;
        }
        told[i * 2 + 1] = rows.arcAt[now * rows.gaps + gap];
        now = rows.beside[now * rows.gaps + gap];
        told[i * 2] = rows.numbers[now];
        count++;
      }
      return count;
    }

    /** 0, if all STEPS are right, else the first that is not, and 1 more. */
    int firstWrong(Rows rows, long gone, int from) {
      int ahead = from;
      for (int i = 0; i < count; i++) {
        int next = rows.find(told[i * 2]);
        if (next < 0 || !isRight(rows, gone, ahead, next, told[i * 2 + 1])) {
          return i + 1;
        }
        ahead = next;
      }
      return 0;
    }

    private static boolean isRight(Rows rows, long gone, int ahead, int next, int arc) {
      for (int p = 0; p < rows.gaps; p++) {
        int at = ahead * rows.gaps + p;
        if ((rows.drops[ahead] >> p & 1) != 0 && rows.beside[at] == next) {
          return rows.arcAt[at] == arc && (gone >>> arc & 1) != 0;
        }
      }
      return false;
    }
  }

  /** SHEETS: items are kept as longs, narrowed to their sort. */
  private static final class Sheets {
    static final int MISSING = -1, BYTES = 0, SHORTS = 1, INTS = 2, LONGS = 3;
    static final int MOST_ITEMS = 40;
    private static final int COUNT = 4;

    final int[] sorts = {MISSING, MISSING, MISSING, MISSING};
    final int[] lengths = new int[COUNT];
    final long[][] items = new long[COUNT][MOST_ITEMS];

    boolean has(int sheet) {
      return sheet >= 0 && sheet < COUNT;
    }

    int renew(int sheet, int sort, int n) {
      sorts[sheet] = sort;
      lengths[sheet] = n;
      Arrays.fill(items[sheet], 0);
      return 1;
    }

    /** What the host says, if a SHEET is taken for a sort: 0, if it is of that. */
    int refusal(int sheet, int sort) {
      if (sorts[sheet] == MISSING) {
        return NOTHING;
      }
      return sorts[sheet] == sort ? 0 : UNLIKE;
    }

    /** Whether n items from i on lie within a SHEET; i + n may be too great for an int. */
    boolean reaches(int sheet, int i, int n) {
      return n >= 0 && i >= 0 && n <= lengths[sheet] && i <= lengths[sheet] - n;
    }

    static long narrowed(long v, int sort) {
      switch (sort) {
        case BYTES: return (byte) v;
        case SHORTS: return (short) v;
        case INTS: return (int) v;
        default: return v;
      }
    }
  }

  /** SHELVES: a row that one holds stays what it was when it was put there, though its SHEET become another. */
  private static final class Shelves {
    static final int EMPTY = 0, A_MAKER = 1, A_ROW = 2;
    private static final int COUNT = 4;

    final int[] held = new int[COUNT];
    /** The number of a MAKER, or the sort of a row. */
    final int[] things = new int[COUNT];
    final int[] lengths = new int[COUNT];

    boolean has(int shelf) {
      return shelf >= 0 && shelf < COUNT;
    }

    int holdMaker(int shelf, int maker) {
      held[shelf] = A_MAKER;
      things[shelf] = maker;
      return 1;
    }

    int holdRow(int shelf, int sort, int n) {
      held[shelf] = sort == Sheets.MISSING ? EMPTY : A_ROW;
      things[shelf] = sort;
      lengths[shelf] = n;
      return 1;
    }

    int holdNothing(int shelf) {
      held[shelf] = EMPTY;
      return 1;
    }
  }
}
