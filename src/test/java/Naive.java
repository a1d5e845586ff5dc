import java.util.ArrayDeque;
import java.util.ArrayList;
import java.util.HashMap;
import java.util.HashSet;
import java.util.List;
import java.util.Map;
import java.util.Set;
import java.util.TreeSet;

/** The document's terms word by word, by looking through all there is: slow, and sharing nothing with the class. */
final class Naive {
  final int n;
  /** All ROWS as numbers, in their order. */
  final List<Integer> rows = new ArrayList<>();
  /** ARCS as {a, b, LEFT}, in their order. */
  final List<int[]> arcs = new ArrayList<>();
  private final Map<String, Integer> arcNumbers = new HashMap<>();

  Naive(int n) {
    this.n = n;
    addRows("");
    for (int a = 1; a <= n; a++) {
      for (int b = a + 1; b <= n; b++) {
        for (int left = 0; left < 1 << (b - a - 1); left++) {
          arcNumbers.put(a + " " + b + " " + left, arcs.size());
          arcs.add(new int[] {a, b, left});
        }
      }
    }
  }

  private void addRows(String begun) {
    if (begun.length() == n) {
      rows.add(Integer.parseInt(begun));
      return;
    }
    for (char c = '1'; c < '1' + n; c++) {
      if (begun.indexOf(c) < 0) {
        addRows(begun + c);
      }
    }
  }

  boolean isSwapped(int row, int lesser, int greater) {
    String s = "" + row;
    return s.indexOf('0' + greater) < s.indexOf('0' + lesser);
  }

  boolean below(int row, int other) {
    for (int a = 1; a <= n; a++) {
      for (int b = a + 1; b <= n; b++) {
        if (isSwapped(row, a, b) && !isSwapped(other, a, b)) {
          return false;
        }
      }
    }
    return true;
  }

  int meet(int row, int other) {
    List<Integer> both = new ArrayList<>();
    for (int r : rows) {
      if (below(r, row) && below(r, other)) {
        both.add(r);
      }
    }
    return greatestOf(both);
  }

  int join(int row, int other) {
    List<Integer> both = new ArrayList<>();
    for (int r : rows) {
      if (below(row, r) && below(other, r)) {
        both.add(r);
      }
    }
    return leastOf(both);
  }

  int leastOf(Iterable<Integer> some) {
    for (int r : some) {
      boolean isLeast = true;
      for (int s : some) {
        isLeast &= below(r, s);
      }
      if (isLeast) {
        return r;
      }
    }
    throw new IllegalStateException("no least one");
  }

  int greatestOf(Iterable<Integer> some) {
    for (int r : some) {
      boolean isGreatest = true;
      for (int s : some) {
        isGreatest &= below(s, r);
      }
      if (isGreatest) {
        return r;
      }
    }
    throw new IllegalStateException("no greatest one");
  }

  int arcAt(int row, int p) {
    String s = "" + row;
    int a = Math.min(s.charAt(p), s.charAt(p + 1)) - '0';
    int b = Math.max(s.charAt(p), s.charAt(p + 1)) - '0';
    int left = 0;
    for (int c = a + 1; c < b; c++) {
      if (s.indexOf('0' + c) < p) {
        left |= 1 << (c - a - 1);
      }
    }
    return arcNumbers.get(a + " " + b + " " + left);
  }

  boolean isDrop(int row, int p) {
    String s = "" + row;
    return s.charAt(p) > s.charAt(p + 1);
  }

  int swapAt(int row, int p) {
    char[] c = ("" + row).toCharArray();
    char kept = c[p];
    c[p] = c[p + 1];
    c[p + 1] = kept;
    return Integer.parseInt(new String(c));
  }

  boolean isLeft(int arc, int c) {
    return (arcs.get(arc)[2] >> (c - arcs.get(arc)[0] - 1) & 1) == 1;
  }

  boolean forces(int arc, int other) {
    int a = arcs.get(arc)[0], b = arcs.get(arc)[1];
    if (arcs.get(other)[0] > a || arcs.get(other)[1] < b) {
      return false;
    }
    for (int c = a + 1; c < b; c++) {
      if (isLeft(arc, c) != isLeft(other, c)) {
        return false;
      }
    }
    return true;
  }

  long withForced(long set) {
    long all = set;
    for (int arc = 0; arc < arcs.size(); arc++) {
      for (int other = 0; other < arcs.size(); other++) {
        if ((set >> arc & 1) == 1 && forces(arc, other)) {
          all |= 1L << other;
        }
      }
    }
    return all;
  }

  long diagram(int row) {
    long set = 0;
    for (int p = 0; p + 1 < n; p++) {
      if (isDrop(row, p)) {
        set |= 1L << arcAt(row, p);
      }
    }
    return set;
  }

  /** The JUMP of v by d places; -3, if it may not be. */
  int jump(int row, int v, long d) {
    List<Integer> places = new ArrayList<>();
    for (char c : ("" + row).toCharArray()) {
      places.add(c - '0');
    }
    int from = places.indexOf(v);
    long to = from + d;
    if (to < 0 || to >= n) {
      return -3;
    }
    for (int p = (int) Math.min(from, to); p <= Math.max(from, to); p++) {
      if (p != from && places.get(p) > v) {
        return -3;
      }
    }
    places.remove(from);
    places.add((int) to, v);
    int number = 0;
    for (int w : places) {
      number = number * 10 + w;
    }
    return number;
  }

  /** All sets of ARCS with all that they FORCE, each from others by one ARC more with its own. */
  Set<Long> closedSets() {
    Set<Long> found = new HashSet<>();
    ArrayDeque<Long> queue = new ArrayDeque<>();
    found.add(0L);
    queue.add(0L);
    while (!queue.isEmpty()) {
      long set = queue.remove();
      for (int arc = 0; arc < arcs.size(); arc++) {
        long more = set | withForced(1L << arc);
        if (found.add(more)) {
          queue.add(more);
        }
      }
    }
    return found;
  }

  /** The CLASSES when those ARCS are GONE. */
  final class Gone {
    final long set;
    final Map<Integer, Set<Integer>> alike = new HashMap<>();
    final Map<Integer, Integer> least = new HashMap<>();
    final Map<Integer, Integer> greatest = new HashMap<>();
    final TreeSet<Integer> classes = new TreeSet<>();
    private Map<Integer, TreeSet<Integer>> under;

    Gone(long set) {
      this.set = set;
      for (int row : rows) {
        if (!alike.containsKey(row)) {
          Set<Integer> those = spread(row);
          int first = leastOf(those), last = greatestOf(those);
          classes.add(first);
          for (int r : those) {
            alike.put(r, those);
            least.put(r, first);
            greatest.put(r, last);
          }
        }
      }
    }

    private Set<Integer> spread(int row) {
      Set<Integer> those = new HashSet<>();
      ArrayDeque<Integer> queue = new ArrayDeque<>();
      those.add(row);
      queue.add(row);
      while (!queue.isEmpty()) {
        int r = queue.remove();
        for (int p = 0; p + 1 < n; p++) {
          if ((set >> arcAt(r, p) & 1) == 1 && those.add(swapAt(r, p))) {
            queue.add(swapAt(r, p));
          }
        }
      }
      return those;
    }

    /** Of each CLASS those RIGHT UNDER it. */
    Map<Integer, TreeSet<Integer>> under() {
      if (under == null) {
        under = new HashMap<>();
        for (int c : classes) {
          TreeSet<Integer> all = new TreeSet<>();
          for (int d : classes) {
            if (d != c && below(d, c)) {
              all.add(d);
            }
          }
          TreeSet<Integer> right = new TreeSet<>();
          for (int d : all) {
            boolean isRight = true;
            for (int e : all) {
              isRight &= e == d || !below(d, e);
            }
            if (isRight) {
              right.add(d);
            }
          }
          under.put(c, right);
        }
      }
      return under;
    }

    TreeSet<Integer> near(int row, int way) {
      int c = least.get(row);
      if (way == 0) {
        return under().get(c);
      }
      TreeSet<Integer> over = new TreeSet<>();
      for (int d : classes) {
        if (under().get(d).contains(c)) {
          over.add(d);
        }
      }
      return over;
    }

    /** The CLASS UNDER both (or which both are UNDER), that all others such are UNDER (or which is UNDER them). */
    int bound(int row, int other, boolean lower) {
      List<Integer> both = new ArrayList<>();
      for (int c : classes) {
        int x = least.get(row), y = least.get(other);
        if (lower ? below(c, x) && below(c, y) : below(x, c) && below(y, c)) {
          both.add(c);
        }
      }
      return lower ? greatestOf(both) : leastOf(both);
    }

    int apart(int row, int other) {
      Map<Integer, Integer> far = new HashMap<>();
      ArrayDeque<Integer> queue = new ArrayDeque<>();
      far.put(least.get(row), 0);
      queue.add(least.get(row));
      while (!queue.isEmpty()) {
        int c = queue.remove();
        TreeSet<Integer> next = new TreeSet<>(near(c, 0));
        next.addAll(near(c, 1));
        for (int d : next) {
          if (!far.containsKey(d)) {
            far.put(d, far.get(c) + 1);
            queue.add(d);
          }
        }
      }
      return far.get(least.get(other));
    }

    int wayUpTo(int c, boolean most, Map<Integer, Integer> known) {
      if (under().get(c).isEmpty()) {
        return 0;
      }
      if (!known.containsKey(c)) {
        int best = most ? -1 : 1000;
        for (int d : under().get(c)) {
          int those = wayUpTo(d, most, known) + 1;
          best = most ? Math.max(best, those) : Math.min(best, those);
        }
        known.put(c, best);
      }
      return known.get(c);
    }

    int wayUp(boolean most) {
      return wayUpTo(least.get(rows.get(rows.size() - 1)), most, new HashMap<>());
    }

    List<Integer> list() {
      List<Integer> list = new ArrayList<>();
      int row = rows.get(0);
      while (row > 0) {
        list.add(row);
        row = behind(row, list);
      }
      return list;
    }

    private int behind(int row, List<Integer> list) {
      for (int v = n; v >= 2; v--) {
        for (int side : new int[] {-1, 1}) {
          for (int d = 1; d < n; d++) {
            int came = jump(row, v, side * d);
            if (came > 0 && least.get(came) == came) {
              if (!list.contains(came)) {
                return came;
              }
              break;
            }
          }
        }
      }
      return -1;
    }
  }

  boolean takes(int kind, int m, int arc) {
    int a = arcs.get(arc)[0], b = arcs.get(arc)[1], l = 0, r = 0;
    boolean signed = false;
    for (int c = a + 1; c < b; c++) {
      boolean bit = (m >> (c - 2) & 1) == 1;
      if (isLeft(arc, c)) {
        l++;
        signed |= !bit;
      } else {
        r++;
        signed |= bit;
      }
    }
    return new boolean[] {false, l > 0, b - a > m, l > 0 && r > 0, signed, b - a > m || l > r}[kind];
  }

  long taken(int kind, int m) {
    long set = 0;
    for (int arc = 0; arc < arcs.size(); arc++) {
      set |= takes(kind, m, arc) ? 1L << arc : 0;
    }
    return set;
  }
}
