/** The edges that the document names of ROWS BY LOT, STAIRS and THE READER: promises 34 to 39. */
public final class LotEdgesTest extends Edges {
  private static final int[] NO_ROWS = {0, 123, 12345, 1134, -1234, MIN, MAX};

  public static void main(String[] args) {
    lots();
    seed();
    drawn();
    stairs();
    prove();
    step();
    alterStep();
    reader();
    judge();
    end(34, 39);
  }

  private static int next(int z) {
    return z * 1103515245 + 12345;
  }

  /** z behind a ROW of so many numbers. */
  private static int behind(int z, int n) {
    int came = z;
    for (int p = n - 1; p >= 1; p--) {
      came = next(came);
    }
    return came;
  }

  private static void lots() {
    term("z (an int; 1 at first) becomes z * 1103515245 + 12345,");
    CoarserOrders x = fresh(2);
    x.drawn(1);
    due("from 1", x.seed(MAX), 1103527590);
    x.drawn(1);
    due("it wraps", x.seed(MIN), next(MAX));
    x.drawn(1);
    due("it wraps from below", x.seed(0), next(MIN));
    x.drawn(1);
    due("from 0", x.seed(1), 12345);
    for (int n = 1; n <= 6; n++) {
      x.size(n);
      x.seed(7);
      x.drawn(1);
      due("as often as p goes down from N - 1 to 1", x.seed(1), behind(7, n));
    }
    term("from 12 .. N, for p = N - 1, N - 2, .. 1:");
    for (int z : new int[] {0, 1, 7, -1, -7, MIN, MAX, 123456789}) {
      for (int n = 1; n <= 6; n++) {
        lotsAreAsTold(n, z);
      }
    }
    term("then the numbers at p and at the place that z >>> 16 leaves by p + 1 change places.");
    int from = 2;
    due("a z below 0 comes", next(from) < 0 ? 1 : 0, 1);
    for (int n = 2; n <= 6; n++) {
      lotsAreAsTold(n, from);
    }
  }

  /** What is drawn is told by whether it is LEAST: with each ARC alone GONE, and what that FORCES. */
  private static void lotsAreAsTold(int n, int z) {
    int rowDue = rowByLot(n, z);
    CoarserOrders x = fresh(n);
    long drops = x.diagram(rowDue);
    for (int arc = 0; arc < x.many(1); arc++) {
      x.clear();
      x.contract(arc);
      x.seed(z);
      due("row of " + n + " from " + z + ", least of itself", x.drawn(1), (drops & x.gone()) == 0 ? 1 : 0);
    }
  }

  private static int rowByLot(int n, int from) {
    int[] row = new int[n];
    for (int p = 0; p < n; p++) {
      row[p] = p + 1;
    }
    int z = from;
    for (int p = n - 1; p >= 1; p--) {
      z = next(z);
      int q = (z >>> 16) % (p + 1), v = row[p];
      row[p] = row[q];
      row[q] = v;
    }
    int number = 0;
    for (int v : row) {
      number = number * 10 + v;
    }
    return number;
  }

  private static void seed() {
    promise(34, "z becomes v: what it was.");
    CoarserOrders x = new CoarserOrders();
    due("1 at first", x.seed(MIN), 1);
    due("the least", x.seed(MAX), MIN);
    due("the greatest", x.seed(-1), MAX);
    due("as low as a refusal", x.seed(0), -1);
    due("0", x.seed(0), 0);
    x.size(5);
    x.clear();
    due("it stays when N changes", x.seed(3), 0);
  }

  private static void drawn() {
    promise(35, "How many of n (1 to 60) ROWS BY LOT are LEAST of themselves (z goes on).");
    for (int n : new int[] {1, 60}) {
      due("all, where none is gone", fresh(6).drawn(n), n);
      due("of one number", fresh(1).drawn(n), n);
    }
    CoarserOrders x = fresh(6);
    x.collapse(123456, 654321);
    due("none is 123456, where all are gone", x.drawn(60), 0);
    CoarserOrders one = fresh(5), other = fresh(5);
    one.contract(0);
    other.contract(0);
    int sum = 0;
    for (int i = 0; i < 60; i++) {
      sum += one.drawn(1);
    }
    due("sixty at once", other.drawn(60), sum);
    due("z has gone on", other.seed(0), one.seed(0));
    promise(35, "BAD.");
    for (int n : new int[] {0, 61, -1, MIN, MAX}) {
      refused("n is " + n, y -> y.drawn(n), BAD);
    }
  }

  /** Of 321: 312 by ARC 0, 132 by 1; with 2, 3 GONE, too, 231 by 3, 213 by 2, 123 by 0. */
  private static CoarserOrders proved() {
    CoarserOrders x = fresh(3);
    x.contract(0);
    x.prove(321);
    return x;
  }

  private static void dueSteps(CoarserOrders x, int... told) {
    due("how many", x.many(6), told.length / 2);
    for (int i = 0; i < told.length / 2; i++) {
      due("row " + i, x.step(i, 0), told[2 * i]);
      due("arc " + i, x.step(i, 1), told[2 * i + 1]);
    }
    due("no more", x.step(told.length / 2, 0), -9);
  }

  private static void stairs() {
    term("the DROP at the least place, the ARC of which is GONE, is taken away by a swap,");
    dueSteps(proved(), 312, 0, 132, 1);
    CoarserOrders x = proved();
    x.contract(3);
    x.prove(321);
    dueSteps(x, 231, 3, 213, 2, 123, 0);
    x.prove(132);
    dueSteps(x, 123, 3);
    term("STEPS of them: (the ROW that came, the ARC).");
    due("the row that came", proved().step(0, 0), 312);
    due("the arc", proved().step(1, 1), 1);
    term("again and again, till there is none.");
    due("none from the first", x.prove(123), 0);
    dueSteps(x);
    CoarserOrders none = fresh(3);
    due("none where none is gone", none.prove(321), 0);
    due("one from a row in the midst", proved().prove(312), 1);
    due("of one number", fresh(1).prove(1), 0);
    CoarserOrders six = fresh(6);
    six.collapse(123456, 654321);
    due("as many as can be", six.prove(654321), 15);
    due("to the first", six.step(14, 0), 123456);
  }

  private static void prove() {
    promise(36, "STEPS of STAIRS from a ROW: how many. BAD.");
    CoarserOrders x = proved();
    due("other ones come", x.prove(132), 0);
    dueSteps(x);
    for (int row : NO_ROWS) {
      refused("no row " + row, y -> y.prove(row), BAD);
    }
  }

  private static void step() {
    promise(37, "Of STEP i: what = 0 the ROW, 1 the ARC. -9: there is none such, another what.");
    due("the first row", proved().step(0, 0), 312);
    due("the first arc", proved().step(0, 1), 0);
    due("the last row", proved().step(1, 0), 132);
    due("the last arc", proved().step(1, 1), 1);
    for (int i : new int[] {-1, 2, 15, MIN, MAX}) {
      refused("step " + i, LotEdgesTest::proved, x -> x.step(i, 0), NO_STEP);
      refused("step " + i + ", the arc", LotEdgesTest::proved, x -> x.step(i, 1), NO_STEP);
    }
    for (int what : new int[] {-1, 2, MIN, MAX}) {
      refused("what " + what, LotEdgesTest::proved, x -> x.step(0, what), NO_STEP);
      refused("what " + what + " of the last", LotEdgesTest::proved, x -> x.step(1, what), NO_STEP);
    }
    refused("none yet", CoarserOrders::new, x -> x.step(0, 0), NO_STEP);
    CoarserOrders x = proved();
    x.prove(312);
    due("of those that were more", x.step(1, 0), -9);
  }

  private static void alterStep() {
    promise(38, "It becomes v: what it was. -9 likewise.");
    CoarserOrders x = proved();
    due("a row", x.alterStep(0, 0, MIN), 312);
    due("it became", x.step(0, 0), MIN);
    due("what it was, though below 0", x.alterStep(0, 0, -9), MIN);
    due("as low as a refusal", x.alterStep(0, 0, 5), -9);
    due("the last arc", x.alterStep(1, 1, MAX), 1);
    dueSteps(x, 5, 0, 132, MAX);
    for (int i : new int[] {-1, 2, 15, MIN, MAX}) {
      refused("step " + i, LotEdgesTest::proved, y -> y.alterStep(i, 0, 1), NO_STEP);
      refused("step " + i + ", the arc", LotEdgesTest::proved, y -> y.alterStep(i, 1, 1), NO_STEP);
    }
    for (int what : new int[] {-1, 2, MIN, MAX}) {
      refused("what " + what, LotEdgesTest::proved, y -> y.alterStep(0, what, 1), NO_STEP);
      refused("what " + what + " of the last", LotEdgesTest::proved, y -> y.alterStep(1, what, 1), NO_STEP);
    }
    refused("none yet", CoarserOrders::new, y -> y.alterStep(0, 0, 1), NO_STEP);
  }

  private static CoarserOrders altered(int i, int what, int v) {
    CoarserOrders x = proved();
    x.alterStep(i, what, v);
    return x;
  }

  private static void reader() {
    term("THE READER takes STEPS as such from a ROW: right is one the ROW of which comes from the one ahead "
        + "(the first: from the ROW told) by taking away a DROP,");
    due("from the row told", proved().judge(321), 0);
    due("from another one", proved().judge(231), 1);
    due("from the first step's own row", proved().judge(312), 1);
    due("a row above", altered(1, 0, 321).judge(321), 2);
    CoarserOrders risen = altered(1, 0, 321);
    risen.alterStep(1, 1, 0);
    due("a rise taken away, by its arc", risen.judge(321), 2);
    due("the same row", altered(1, 0, 312).judge(321), 2);
    due("two drops at once", altered(0, 0, 132).judge(321), 1);
    due("by another drop of it", altered(0, 0, 231).judge(321), 1);
    due("no row", altered(0, 0, 3).judge(321), 1);
    due("no row, below 0", altered(1, 0, -132).judge(321), 2);
    term("the ARC of which is that told, and GONE.");
    due("another arc that is gone", altered(0, 1, 1).judge(321), 1);
    due("no arc", altered(0, 1, -1).judge(321), 1);
    due("the arc and 64 more", altered(0, 1, 64).judge(321), 1);
    due("no arc, the greatest", altered(1, 1, MAX).judge(321), 2);
    CoarserOrders x = proved();
    x.restore(1);
    due("1 2 that forces it is not gone either", x.judge(321), 1);
    x.clear();
    x.contract(1);
    due("only the second is gone", x.judge(321), 1);
    due("the second alone is right", x.judge(312), 1);
    CoarserOrders other = proved();
    other.contract(3);
    due("not at the least place, and right", other.judge(321), 0);
  }

  private static void judge() {
    promise(39, "0 all is right; else the first that is not, and 1 more.");
    due("no steps", new CoarserOrders().judge(4321), 0);
    due("no steps, from the first row", new CoarserOrders().judge(1234), 0);
    due("all is right", proved().judge(321), 0);
    due("from the first row", proved().judge(123), 1);
    due("the first", altered(0, 1, 3).judge(321), 1);
    due("the last", altered(1, 1, 3).judge(321), 2);
    CoarserOrders x = altered(0, 1, 3);
    x.alterStep(1, 1, 3);
    due("both", x.judge(321), 1);
    CoarserOrders six = fresh(6);
    six.collapse(123456, 654321);
    six.prove(654321);
    due("as many as can be", six.judge(654321), 0);
    six.alterStep(14, 1, 1);
    due("the fifteenth", six.judge(654321), 15);
    six.size(5);
    due("rows of another N", six.judge(54321), 1);
    promise(39, "BAD.");
    for (int row : NO_ROWS) {
      refused("no row " + row, y -> y.judge(row), BAD);
    }
    refused("no row, and no steps", CoarserOrders::new, y -> y.judge(0), BAD);
  }
}
