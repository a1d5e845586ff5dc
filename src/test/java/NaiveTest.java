import java.util.ArrayList;
import java.util.HashMap;
import java.util.List;
import java.util.Map;
import java.util.Random;
import java.util.Set;

/** What the class answers of rows, arcs and classes (promises 2 to 17, 20, 24 to 33, 35 to 39, 49), by the terms. */
public final class NaiveTest {
  private static final Map<Integer, Naive> MODELS = new HashMap<>();

  private static Naive model(int n) {
    return MODELS.computeIfAbsent(n, Naive::new);
  }

  public static void main(String[] args) {
    Random random = new Random(20261118);
    for (int n = 1; n <= 6; n++) {
      rows(n, random);
      arcs(n);
    }
    for (int n = 1; n <= 4; n++) {
      for (long set : model(n).closedSets()) {
        classes(n, set, random);
        lists(n, set);
      }
    }
    for (int i = 0; i < 25; i++) {
      long set = someSet(5, random);
      classes(5, set, random);
      lists(5, set);
    }
    for (int i = 0; i < 6; i++) {
      classes(6, someSet(6, random), random);
    }
    for (int n = 1; n <= 5; n++) {
      closedSets(n, random);
    }
    for (int n = 2; n <= 4; n++) {
      collapses(n, random, 60);
    }
    collapses(5, random, 3);
    for (int i = 0; i < 60; i++) {
      whatItIs(2 + random.nextInt(5), random);
      stairs(1 + random.nextInt(6), random);
    }
    Check.end();
  }

  private static CoarserOrders fresh(int n) {
    CoarserOrders x = new CoarserOrders();
    x.size(n);
    return x;
  }

  /** Makes just a closed set GONE. */
  private static CoarserOrders withGone(int n, long set) {
    CoarserOrders x = fresh(n);
    makeGone(x, set);
    return x;
  }

  private static void makeGone(CoarserOrders x, long set) {
    x.clear();
    for (int arc = 0; arc < 57; arc++) {
      if ((set >> arc & 1) == 1) {
        x.contract(arc);
      }
    }
    Check.due("gone()", x.gone(), set);
  }

  private static long someSet(int n, Random random) {
    long set = 0;
    int many = random.nextInt(6);
    for (int i = 0; i < many; i++) {
      set |= 1L << random.nextInt(model(n).arcs.size());
    }
    return model(n).withForced(set);
  }

  private static int some(List<Integer> rows, Random random) {
    return rows.get(random.nextInt(rows.size()));
  }

  private static void rows(int n, Random random) {
    Naive model = model(n);
    CoarserOrders x = fresh(n);
    Check.due("many(1)", x.many(1), model.arcs.size());
    for (int i = 0; i < model.rows.size(); i++) {
      int row = model.rows.get(i);
      Check.due("rowAt " + i, x.rowAt(i), row);
      Check.due("of " + row + " 2", x.of(row, 2), i);
      Check.due("of " + row + " 3", x.of(row, 3), Integer.parseInt(new StringBuilder("" + row).reverse().toString()));
      Check.due("diagram " + row, x.diagram(row), model.diagram(row));
      Check.due("rowOf " + row, x.rowOf(model.diagram(row)), row);
      int drops = 0, swapped = 0;
      for (int p = 0; p + 1 < n; p++) {
        drops |= model.isDrop(row, p) ? 1 << p : 0;
        Check.due("arc " + row + " " + p, x.arc(row, p), model.arcAt(row, p));
      }
      for (int a = 1; a <= n; a++) {
        for (int b = a + 1; b <= n; b++) {
          swapped += model.isSwapped(row, a, b) ? 1 : 0;
        }
        for (int d = -n - 1; d <= n + 1; d++) {
          Check.due("jump " + row + " " + a + " " + d, x.jump(row, a, d), model.jump(row, a, d));
        }
      }
      Check.due("of " + row + " 1", x.of(row, 1), drops);
      Check.due("of " + row + " 0", x.of(row, 0), swapped);
    }
    Check.due("rowAt beyond", x.rowAt(model.rows.size()), -1);
    int pairs = n <= 4 ? 600 : n == 5 ? 300 : 40;
    for (int i = 0; i < pairs; i++) {
      int row = n <= 4 ? model.rows.get(i % model.rows.size()) : some(model.rows, random);
      int other = n <= 4 ? model.rows.get(i / model.rows.size() % model.rows.size()) : some(model.rows, random);
      String pair = " " + row + " " + other;
      Check.due("below" + pair, x.below(row, other), model.below(row, other) ? 1 : 0);
      Check.due("meet" + pair, x.meet(row, other), model.meet(row, other));
      Check.due("join" + pair, x.join(row, other), model.join(row, other));
    }
  }

  private static void arcs(int n) {
    Naive model = model(n);
    CoarserOrders x = fresh(n);
    Map<Long, Integer> byDiagram = new HashMap<>();
    for (int row : model.rows) {
      byDiagram.put(model.diagram(row), row);
    }
    int count = model.arcs.size();
    for (int arc = 0; arc < count; arc++) {
      int forced = 0, forcing = 0;
      for (int other = 0; other < count; other++) {
        Check.due("forces " + arc + " " + other, x.forces(arc, other), model.forces(arc, other) ? 1 : 0);
        forced += model.forces(arc, other) ? 1 : 0;
        forcing += model.forces(other, arc) ? 1 : 0;
        long pair = 1L << arc | 1L << other;
        Check.due("rowOf " + pair, x.rowOf(pair), byDiagram.getOrDefault(pair, -3));
      }
      for (int what = 0; what < 3; what++) {
        Check.due("arcIs " + arc + " " + what, x.arcIs(arc, what), model.arcs.get(arc)[what]);
      }
      Check.due("arcIs " + arc + " 4", x.arcIs(arc, 4), forced);
      Check.due("arcIs " + arc + " 5", x.arcIs(arc, 5), forcing);
      List<Integer> with = new ArrayList<>();
      for (int row : model.rows) {
        if ((model.diagram(row) >> arc & 1) == 1) {
          with.add(row);
        }
      }
      Check.due("arcIs " + arc + " 6", x.arcIs(arc, 6), model.leastOf(with));
    }
    Check.due("arcIs beyond", x.arcIs(count, 0), -1);
    Check.due("rowOf beyond", x.rowOf(1L << count), -1);
  }

  private static void classes(int n, long set, Random random) {
    Naive model = model(n);
    Naive.Gone gone = model.new Gone(set);
    CoarserOrders x = withGone(n, set);
    Check.due("many 3", x.many(3), gone.classes.size());
    int at = 0;
    for (int c : gone.classes) {
      Check.due("classAt " + at, x.classAt(at), c);
      at++;
    }
    Check.due("classAt beyond", x.classAt(at), -1);
    for (int row : model.rows) {
      Check.due("least " + row, x.alike(row, 0), gone.least.get(row));
      Check.due("greatest " + row, x.alike(row, 1), gone.greatest.get(row));
      Check.due("alike " + row, x.alike(row, 2), gone.alike.get(row).size());
    }
    if (n <= 5) {
      int right = 0;
      for (int c : gone.classes) {
        right += gone.under().get(c).size();
      }
      Check.due("many 4", x.many(4), right);
    }
    int tries = n == 6 ? 10 : 24;
    for (int i = 0; i < tries; i++) {
      int row = some(model.rows, random), other = some(model.rows, random);
      String pair = " " + row + " " + other;
      Check.due("classes" + pair + " 0", x.classes(row, other, 0),
          model.below(gone.least.get(row), gone.least.get(other)) ? 1 : 0);
      Check.due("classes" + pair + " 1", x.classes(row, other, 1), gone.bound(row, other, true));
      Check.due("classes" + pair + " 2", x.classes(row, other, 2), gone.bound(row, other, false));
      if (n <= 5) {
        Check.due("apart" + pair, x.apart(row, other), gone.apart(row, other));
      }
    }
    for (int i = 0; n <= 5 && i < 24; i++) {
      near(x, gone, some(model.rows, random));
    }
  }

  private static void near(CoarserOrders x, Naive.Gone gone, int row) {
    for (int way = 0; way <= 1; way++) {
      int k = 0;
      for (int c : gone.near(row, way)) {
        Check.due("rotate " + row + " " + k + " " + way, x.rotate(row, k, way), c);
        k++;
      }
      Check.due("rotations " + row + " " + way, x.rotations(row, way), k);
      Check.due("rotate beyond " + row + " " + way, x.rotate(row, k, way), -3);
    }
  }

  private static void lists(int n, long set) {
    Naive.Gone gone = model(n).new Gone(set);
    CoarserOrders x = withGone(n, set);
    Check.due("wayUp 0", x.wayUp(0), gone.wayUp(true));
    Check.due("wayUp 1", x.wayUp(1), gone.wayUp(false));
    List<Integer> list = gone.list();
    for (int i = 0; i < list.size(); i++) {
      Check.due("listed " + i, x.listed(i), list.get(i));
    }
    Check.due("listed beyond", x.listed(list.size()), -3);
    // The one kept must not outlive a change.
    x.clear();
    List<Integer> all = model(n).new Gone(0).list();
    Check.due("listed last", x.listed(all.size() - 1), all.get(all.size() - 1));
  }

  private static void closedSets(int n, Random random) {
    Set<Long> sets = model(n).closedSets();
    CoarserOrders x = fresh(n);
    Check.due("closed 0", x.closed(0), sets.size());
    List<Long> all = new ArrayList<>(sets);
    for (int i = 0; i < 60; i++) {
      long set = all.get(random.nextInt(all.size()));
      makeGone(x, set);
      int over = 0;
      for (long other : sets) {
        over += (set & ~other) == 0 ? 1 : 0;
      }
      Check.due("closed 1 of " + set, x.closed(1), over);
      Check.due("closed 0", x.closed(0), sets.size());
    }
  }

  /** Of all closed sets that hold what is GONE and make the two ALIKE, the one with the fewest ARCS. */
  private static void collapses(int n, Random random, int tries) {
    Naive model = model(n);
    Map<Long, Naive.Gone> all = new HashMap<>();
    for (long set : model.closedSets()) {
      all.put(set, model.new Gone(set));
    }
    for (int i = 0; i < tries * 10; i++) {
      long set = someSet(n, random) & (random.nextBoolean() ? -1 : 0);
      int row = some(model.rows, random), other = some(model.rows, random);
      long best = -1;
      for (Map.Entry<Long, Naive.Gone> each : all.entrySet()) {
        long candidate = each.getKey();
        boolean fits = (set & ~candidate) == 0 && each.getValue().alike.get(row).contains(other);
        if (fits && (best < 0 || Long.bitCount(candidate) < Long.bitCount(best))) {
          best = candidate;
        }
      }
      CoarserOrders x = withGone(n, set);
      Check.due("collapse " + row + " " + other, x.collapse(row, other), Long.bitCount(best));
      Check.due("gone behind collapse", x.gone(), best);
    }
  }

  private static void whatItIs(int n, Random random) {
    Naive model = model(n);
    CoarserOrders x = fresh(n);
    int threes = 1 + random.nextInt(4);
    int hidden = random.nextInt(96);
    Naive.Gone gone = model.new Gone(model.withForced(model.taken(hidden / 16, hidden % 16)));
    x.sheet(0, 2, 3 * threes);
    int[] told = new int[3 * threes];
    for (int i = 0; i < threes; i++) {
      told[3 * i] = some(model.rows, random);
      told[3 * i + 1] = random.nextBoolean() ? gone.least.get(told[3 * i]) : some(model.rows, random);
      told[3 * i + 2] = gone.alike.get(told[3 * i]).contains(told[3 * i + 1]) ? 1 : 0;
      for (int k = 0; k < 3; k++) {
        x.put(0, 3 * i + k, told[3 * i + k]);
      }
    }
    int many = 0, first = -3;
    for (int pair = 95; pair >= 0; pair--) {
      Naive.Gone by = model.new Gone(model.withForced(model.taken(pair / 16, pair % 16)));
      boolean fits = true;
      for (int i = 0; i < threes; i++) {
        fits &= by.alike.get(told[3 * i]).contains(told[3 * i + 1]) == (told[3 * i + 2] == 1);
      }
      many += fits ? 1 : 0;
      first = fits ? pair : first;
    }
    Check.due("whatIs 0", x.whatIs(0, 0), many);
    Check.due("whatIs 1", x.whatIs(0, 1), first);
    int maker = x.maker(hidden / 16, hidden % 16);
    Check.due("makerIs 2", x.makerIs(maker, 2), Long.bitCount(model.taken(hidden / 16, hidden % 16)));
    x.make(maker, 0);
    Check.due("gone behind make", x.gone(), gone.set);
  }

  private static void stairs(int n, Random random) {
    Naive model = model(n);
    long set = n == 1 ? 0 : someSet(n, random);
    CoarserOrders x = withGone(n, set);
    int from = some(model.rows, random), now = from, steps = 0;
    x.prove(from);
    for (int p = 0; p + 1 < n; p++) {
      if (model.isDrop(now, p) && (set >> model.arcAt(now, p) & 1) == 1) {
        Check.due("step arc", x.step(steps, 1), model.arcAt(now, p));
        now = model.swapAt(now, p);
        Check.due("step row", x.step(steps, 0), now);
        steps++;
        p = -1;
      }
    }
    Check.due("many 6", x.many(6), steps);
    Check.due("judge " + from, x.judge(from), 0);
    lots(x, model, set, random.nextInt());
  }

  private static void lots(CoarserOrders x, Naive model, long set, int seed) {
    Naive.Gone gone = model.new Gone(set);
    int z = seed, least = 0;
    for (int i = 0; i < 60; i++) {
      char[] c = ("" + model.rows.get(0)).toCharArray();
      for (int p = c.length - 1; p >= 1; p--) {
        z = z * 1103515245 + 12345;
        int q = (z >>> 16) % (p + 1);
        char kept = c[p];
        c[p] = c[q];
        c[q] = kept;
      }
      int row = Integer.parseInt(new String(c));
      least += gone.least.get(row) == row ? 1 : 0;
    }
    x.seed(seed);
    Check.due("drawn 60", x.drawn(60), least);
    Check.due("seed behind", x.seed(0), z);
  }
}
