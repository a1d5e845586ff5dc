import java.util.ArrayList;
import java.util.Arrays;
import java.util.HashMap;
import java.util.List;
import java.util.Map;
import java.util.TreeSet;

/** Another object of the document, slow and plain: by Naive, by Java's own arrays and classes, and by what these throw. */
final class Model {
  /** Where it would take too long to tell. */
  static final long UNTOLD = Long.MIN_VALUE;
  private static final int BAD = -1, FULL = -2, NONE = -3, STATE = -4;
  private static final Map<Integer, Naive> NAIVES = new HashMap<>();
  private static final Map<String, Naive.Gone> GONES = new HashMap<>();
  private static final Map<Integer, TreeSet<Long>> CLOSED = new HashMap<>();

  private record Kept(int n, long gone, List<int[]> makers, int z) { }

  private Naive naive = naive(4);
  private long gone = 0;
  private List<int[]> makers = new ArrayList<>();
  private int z = 1;
  private Kept kept = null;
  private List<int[]> steps = new ArrayList<>();
  private String tape = "";
  private final Object[] sheets = new Object[4];
  private final Object[] shelves = new Object[4];
  private List<Integer> trace = new ArrayList<>();

  private static Naive naive(int n) {
    return NAIVES.computeIfAbsent(n, Naive::new);
  }

  int n() {
    return naive.n;
  }

  List<Integer> allRows() {
    return naive.rows;
  }

  private Naive.Gone by(long set) {
    if (GONES.size() > 3000) {
      GONES.clear();
    }
    Naive of = naive;
    return GONES.computeIfAbsent(of.n + " " + set, k -> of.new Gone(set));
  }

  private boolean isRow(int row) {
    return naive.rows.contains(row);
  }

  private boolean isArc(int arc) {
    return arc >= 0 && arc < naive.arcs.size();
  }

  private int howMany() {
    return Long.bitCount(gone);
  }

  long size(int v) {
    if (v < 1 || v > 6) {
      return BAD;
    }
    int was = naive.n;
    naive = naive(v);
    gone = was == v ? gone : 0;
    return was;
  }

  long below(int row, int other) {
    return !isRow(row) || !isRow(other) ? BAD : naive.below(row, other) ? 1 : 0;
  }

  long meet(int row, int other) {
    return !isRow(row) || !isRow(other) ? BAD : naive.meet(row, other);
  }

  long join(int row, int other) {
    return !isRow(row) || !isRow(other) ? BAD : naive.join(row, other);
  }

  long of(int row, int what) {
    if (!isRow(row) || what < 0 || what > 3) {
      return BAD;
    }
    int swapped = 0, drops = 0;
    for (int a = 1; a <= naive.n; a++) {
      for (int b = a + 1; b <= naive.n; b++) {
        swapped += naive.isSwapped(row, a, b) ? 1 : 0;
      }
    }
    for (int p = 0; p + 1 < naive.n; p++) {
      drops |= naive.isDrop(row, p) ? 1 << p : 0;
    }
    int turned = Integer.parseInt(new StringBuilder("" + row).reverse().toString());
    return new int[] {swapped, drops, naive.rows.indexOf(row), turned}[what];
  }

  long rowAt(int i) {
    return i < 0 || i >= naive.rows.size() ? BAD : naive.rows.get(i);
  }

  long jump(int row, int v, int d) {
    return !isRow(row) || v < 1 || v > naive.n ? BAD : naive.jump(row, v, d);
  }

  long arc(int row, int p) {
    return !isRow(row) || p < 0 || p > naive.n - 2 ? BAD : naive.arcAt(row, p);
  }

  long arcIs(int arc, int what) {
    if (!isArc(arc) || what < 0 || what > 6) {
      return BAD;
    }
    if (what < 3) {
      return naive.arcs.get(arc)[what];
    }
    int forced = 0, forcing = 0;
    List<Integer> with = new ArrayList<>();
    for (int other = 0; other < naive.arcs.size(); other++) {
      forced += naive.forces(arc, other) ? 1 : 0;
      forcing += naive.forces(other, arc) ? 1 : 0;
    }
    for (int row : naive.rows) {
      if (what == 6 && (naive.diagram(row) >> arc & 1) == 1) {
        with.add(row);
      }
    }
    return what == 3 ? gone >> arc & 1 : what == 4 ? forced : what == 5 ? forcing : naive.leastOf(with);
  }

  long forces(int arc, int other) {
    return !isArc(arc) || !isArc(other) ? BAD : naive.forces(arc, other) ? 1 : 0;
  }

  long diagram(int row) {
    return isRow(row) ? naive.diagram(row) : BAD;
  }

  long rowOf(long arcs) {
    if (arcs >> naive.arcs.size() != 0) {
      return BAD;
    }
    for (int row : naive.rows) {
      if (naive.diagram(row) == arcs) {
        return row;
      }
    }
    return NONE;
  }

  long gone() {
    return gone;
  }

  long contract(int arc) {
    if (!isArc(arc)) {
      return BAD;
    }
    gone |= naive.withForced(1L << arc);
    return howMany();
  }

  long restore(int arc) {
    if (!isArc(arc)) {
      return BAD;
    }
    for (int other = 0; other < naive.arcs.size(); other++) {
      gone &= naive.forces(other, arc) ? ~(1L << other) : -1;
    }
    return howMany();
  }

  /** Of the swaps that lead down from both rows to their MEET, the ARCS: each must be GONE, and then they are ALIKE. */
  long collapse(int row, int other) {
    if (!isRow(row) || !isRow(other)) {
      return BAD;
    }
    int lower = naive.meet(row, other);
    gone |= naive.withForced(onTheWay(row, lower) | onTheWay(other, lower));
    return howMany();
  }

  private long onTheWay(int from, int to) {
    long set = 0;
    for (int p = 0; p + 1 < naive.n; p++) {
      int next = naive.swapAt(from, p);
      if (naive.isDrop(from, p) && naive.below(to, next)) {
        return 1L << naive.arcAt(from, p) | onTheWay(next, to);
      }
    }
    return set;
  }

  long maker(int kind, int m) {
    if (kind < 0 || kind > 5 || m < 0 || m > 15) {
      return BAD;
    }
    if (makers.size() == 6) {
      return FULL;
    }
    makers.add(new int[] {kind, m});
    return makers.size() - 1;
  }

  private boolean isMaker(int maker) {
    return maker >= 0 && maker < makers.size();
  }

  private long takenBy(int maker) {
    return naive.taken(makers.get(maker)[0], makers.get(maker)[1]);
  }

  long makerIs(int maker, int what) {
    if (!isMaker(maker) || what < 0 || what > 2) {
      return BAD;
    }
    return what < 2 ? makers.get(maker)[what] : Long.bitCount(takenBy(maker));
  }

  long make(int maker, int how) {
    return !isMaker(maker) || how < 0 || how > 2 ? BAD : come(takenBy(maker), how);
  }

  private long come(long taken, int how) {
    long these = naive.withForced(taken);
    gone = how == 0 ? these : how == 1 ? gone | these : gone & these;
    return howMany();
  }

  long feed(long eight, int n) {
    if (n < 1 || n > 8) {
      return BAD;
    }
    if (tape.length() + n > 200) {
      return FULL;
    }
    long rest = eight;
    for (int i = 0; i < n; i++) {
      tape += (char) Math.floorMod(rest, 256L);
      rest = Math.floorDiv(rest, 256L);
    }
    return tape.length();
  }

  long text(int how) {
    if (how < 0 || how > 2) {
      return BAD;
    }
    Reading reading = new Reading(tape);
    tape = "";
    if (reading.fault >= 0) {
      return -100 - reading.fault;
    }
    long set = 0;
    for (int arc = 0; arc < naive.arcs.size(); arc++) {
      set |= reading.holdsFor(naive, arc) ? 1L << arc : 0;
    }
    return come(set, how);
  }

  long clear() {
    int were = howMany();
    gone = 0;
    return were;
  }

  long alike(int row, int what) {
    if (!isRow(row) || what < 0 || what > 2) {
      return BAD;
    }
    Naive.Gone by = by(gone);
    return what == 0 ? by.least.get(row) : what == 1 ? by.greatest.get(row) : by.alike.get(row).size();
  }

  long classAt(int i) {
    List<Integer> classes = new ArrayList<>(by(gone).classes);
    return i < 0 || i >= classes.size() ? BAD : classes.get(i);
  }

  long classes(int row, int other, int what) {
    if (!isRow(row) || !isRow(other) || what < 0 || what > 2) {
      return BAD;
    }
    Naive.Gone by = by(gone);
    return what == 0 ? naive.below(by.least.get(row), by.least.get(other)) ? 1 : 0 : by.bound(row, other, what == 1);
  }

  private boolean isTooMuch() {
    return naive.n == 6 && by(gone).classes.size() > 150;
  }

  long rotations(int row, int way) {
    return !isRow(row) || way < 0 || way > 1 ? BAD : isTooMuch() ? UNTOLD : by(gone).near(row, way).size();
  }

  long rotate(int row, int k, int way) {
    if (!isRow(row) || k < 0 || way < 0 || way > 1) {
      return BAD;
    }
    if (isTooMuch()) {
      return UNTOLD;
    }
    List<Integer> near = new ArrayList<>(by(gone).near(row, way));
    return k < near.size() ? near.get(k) : NONE;
  }

  long apart(int row, int other) {
    return !isRow(row) || !isRow(other) ? BAD : naive.n == 6 ? STATE : by(gone).apart(row, other);
  }

  long wayUp(int what) {
    return what < 0 || what > 1 ? BAD : naive.n == 6 ? STATE : by(gone).wayUp(what == 0);
  }

  long listed(int i) {
    if (i < 0 || naive.n == 6) {
      return i < 0 ? BAD : STATE;
    }
    List<Integer> list = by(gone).list();
    return i < list.size() ? list.get(i) : NONE;
  }

  long closed(int what) {
    if (what < 0 || what > 1 || naive.n == 6) {
      return what < 0 || what > 1 ? BAD : STATE;
    }
    long with = what == 0 ? 0 : gone;
    Naive of = naive;
    return CLOSED.computeIfAbsent(of.n, k -> new TreeSet<>(of.closedSets())).stream()
        .filter(set -> (with & ~set) == 0).count();
  }

  long whatIs(int sheet, int what) {
    if (sheet < 0 || sheet > 3 || what < 0 || what > 1) {
      return BAD;
    }
    int[] threes;
    try {
      threes = (int[]) sheets[sheet];
    } catch (ClassCastException e) {
      return -13;
    }
    if (threes == null) {
      return -11;
    }
    int many = 0, first = NONE;
    for (int pair = 95; pair >= 0; pair--) {
      Naive.Gone with = by(naive.withForced(naive.taken(pair / 16, pair % 16)));
      boolean fits = threes.length % 3 == 0;
      for (int i = 0; fits && i < threes.length; i += 3) {
        fits = isRow(threes[i]) && isRow(threes[i + 1])
            && threes[i + 2] == (with.alike.get(threes[i]).contains(threes[i + 1]) ? 1 : 0);
      }
      many += fits ? 1 : 0;
      first = fits ? pair : first;
    }
    return what == 0 ? many : first;
  }

  long seed(int v) {
    int was = z;
    z = v;
    return was;
  }

  long drawn(int n) {
    if (n < 1 || n > 60) {
      return BAD;
    }
    int least = 0;
    for (int i = 0; i < n; i++) {
      char[] c = ("" + naive.rows.get(0)).toCharArray();
      for (int p = c.length - 1; p >= 1; p--) {
        z = z * 1103515245 + 12345;
        int q = (z >>> 16) % (p + 1);
        char was = c[p];
        c[p] = c[q];
        c[q] = was;
      }
      int row = Integer.parseInt(new String(c));
      least += by(gone).least.get(row) == row ? 1 : 0;
    }
    return least;
  }

  private int gapDown(int row) {
    for (int p = 0; p + 1 < naive.n; p++) {
      if (naive.isDrop(row, p) && (gone >> naive.arcAt(row, p) & 1) == 1) {
        return p;
      }
    }
    return -1;
  }

  long prove(int row) {
    if (!isRow(row)) {
      return BAD;
    }
    steps = new ArrayList<>();
    int now = row;
    for (int p = gapDown(now); p >= 0; p = gapDown(now)) {
      int arc = naive.arcAt(now, p);
      now = naive.swapAt(now, p);
      steps.add(new int[] {now, arc});
    }
    return steps.size();
  }

  long step(int i, int what) {
    return i < 0 || i >= steps.size() || what < 0 || what > 1 ? -9 : steps.get(i)[what];
  }

  long alterStep(int i, int what, int v) {
    long was = step(i, what);
    if (i >= 0 && i < steps.size() && what >= 0 && what <= 1) {
      steps.get(i)[what] = v;
    }
    return was;
  }

  long judge(int row) {
    if (!isRow(row)) {
      return BAD;
    }
    int ahead = row;
    for (int i = 0; i < steps.size(); i++) {
      boolean isRight = false;
      for (int p = 0; p + 1 < naive.n; p++) {
        int arc = naive.arcAt(ahead, p);
        isRight |= naive.isDrop(ahead, p) && naive.swapAt(ahead, p) == steps.get(i)[0] && arc == steps.get(i)[1]
            && (gone >> arc & 1) == 1;
      }
      if (!isRight) {
        return i + 1;
      }
      ahead = steps.get(i)[0];
    }
    return 0;
  }

  long sheet(int sheet, int sort, int n) {
    if (sheet < 0 || sheet > 3 || sort < -1 || sort > 3 || sort >= 0 && n > 40) {
      return BAD;
    }
    try {
      sheets[sheet] = sort == -1 ? null : sort == 0 ? new byte[n] : sort == 1 ? new short[n] : sort == 2 ? new int[n] : new long[n];
      return 1;
    } catch (NegativeArraySizeException e) {
      return -14;
    }
  }

  long put(int sheet, int i, long v) {
    if (sheet < 0 || sheet > 3) {
      return BAD;
    }
    if (sheets[sheet] == null) {
      return -11;
    }
    try {
      if (sheets[sheet] instanceof byte[] bytes) {
        bytes[i] = (byte) v;
      } else if (sheets[sheet] instanceof short[] shorts) {
        shorts[i] = (short) v;
      } else if (sheets[sheet] instanceof int[] ints) {
        ints[i] = (int) v;
      } else {
        ((long[]) sheets[sheet])[i] = v;
      }
      return 1;
    } catch (ArrayIndexOutOfBoundsException e) {
      return -12;
    }
  }

  long item(int sheet, int sort, int i) {
    if (sheet < 0 || sheet > 3 || sort < 0 || sort > 3) {
      return BAD;
    }
    Object of = sheets[sheet];
    try {
      return sort == 0 ? ((byte[]) of)[i] : sort == 1 ? ((short[]) of)[i] : sort == 2 ? ((int[]) of)[i] : (int) ((long[]) of)[i];
    } catch (ClassCastException e) {
      return -13;
    } catch (NullPointerException e) {
      return -11;
    } catch (ArrayIndexOutOfBoundsException e) {
      return -12;
    }
  }

  @SuppressWarnings("SuspiciousSystemArraycopy")
  long move(int sheet, int i, int other, int j, int n) {
    if (sheet < 0 || sheet > 3 || other < 0 || other > 3) {
      return BAD;
    }
    try {
      System.arraycopy(sheets[sheet], i, sheets[other], j, n);
      return n;
    } catch (NullPointerException e) {
      return -11;
    } catch (ArrayStoreException e) {
      return -13;
    } catch (IndexOutOfBoundsException e) {
      return -12;
    }
  }

  long rowFrom(int sheet, int i) {
    if (sheet < 0 || sheet > 3) {
      return BAD;
    }
    String digits = "";
    try {
      byte[] bytes = (byte[]) sheets[sheet];
      for (int k = 0; k < naive.n; k++) {
        digits += bytes[i + k] < 1 || bytes[i + k] > 6 ? "0" : "" + bytes[i + k];
      }
    } catch (ClassCastException e) {
      return -13;
    } catch (NullPointerException e) {
      return -11;
    } catch (ArrayIndexOutOfBoundsException e) {
      return -12;
    }
    int number = Integer.parseInt(digits);
    return isRow(number) ? number : NONE;
  }

  long shelf(int shelf, int what, int n) {
    boolean isThing = what == 0 && isMaker(n) || what == 1 && n >= 0 && n <= 3 || what == 2;
    if (shelf < 0 || shelf > 3 || !isThing) {
      return BAD;
    }
    shelves[shelf] = what == 0 ? (Object) n : what == 1 ? sheets[n] : null;
    return 1;
  }

  private Object held(int shelf) {
    return shelves[shelf] instanceof Integer n && !isMaker(n) ? null : shelves[shelf];
  }

  private Bodies.Plain madeBy(int maker) {
    return Bodies.made(makers.get(maker)[0], maker, makers.get(maker)[1]);
  }

  long taken(int shelf, int as) {
    if (shelf < 0 || shelf > 3 || !(as >= 0 && as <= 5 || as >= 10 && as <= 13)) {
      return BAD;
    }
    Object held = held(shelf);
    try {
      if (as <= 5) {
        Object maker = held instanceof Integer n ? madeBy(n) : held;
        return Bodies.KINDS[as].cast(maker) == null ? -11 : (int) held;
      }
      return as == 10 ? ((byte[]) held).length : as == 11 ? ((short[]) held).length
          : as == 12 ? ((int[]) held).length : ((long[]) held).length;
    } catch (ClassCastException e) {
      return -13;
    } catch (NullPointerException e) {
      return -11;
    }
  }

  long act(int shelf, int act, int x) {
    trace = new ArrayList<>();
    if (shelf < 0 || shelf > 3 || act < 0 || act > 3 || !(held(shelf) instanceof Integer n)) {
      return 0;
    }
    int answer = Bodies.answer(madeBy(n), act, x);
    trace = new ArrayList<>(Bodies.TRACE.subList(0, Math.min(30, Bodies.TRACE.size())));
    return answer;
  }

  long trace(int i) {
    return i < 0 || i >= trace.size() ? NONE : trace.get(i);
  }

  long many(int what) {
    if (what < 0 || what > 8) {
      return BAD;
    }
    if (what == 4 && isTooMuch()) {
      return UNTOLD;
    }
    int pairs = what == 4 ? by(gone).under().values().stream().mapToInt(TreeSet::size).sum() : 0;
    int classes = what == 3 ? by(gone).classes.size() : 0;
    return new int[] {naive.n, naive.arcs.size(), howMany(), classes, pairs, makers.size(), steps.size(), tape.length(),
      trace.size()}[what];
  }

  long keep() {
    kept = new Kept(naive.n, gone, copied(makers), z);
    return 1;
  }

  private static List<int[]> copied(List<int[]> makers) {
    List<int[]> copy = new ArrayList<>();
    for (int[] maker : makers) {
      copy.add(Arrays.copyOf(maker, 2));
    }
    return copy;
  }

  long again() {
    if (kept == null) {
      return NONE;
    }
    naive = naive(kept.n());
    gone = kept.gone();
    makers = copied(kept.makers());
    z = kept.z();
    return howMany();
  }
}
