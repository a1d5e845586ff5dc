/** The edges that the document names of the host, and of what is kept: promises 40 to 51. */
public final class HostEdgesTest extends Edges {
  private static final int TURNS = 0, BENDS = 1, PARTS = 2, JOINS = 3;
  private static final int[] NONE_OF_FOUR = {-1, 4, MIN, MAX};

  public static void main(String[] args) {
    sheets();
    sheet();
    put();
    item();
    move();
    rowFrom();
    shelves();
    shelf();
    taken();
    bodies();
    wrapping();
    parting();
    superBodies();
    tracing();
    act();
    trace();
    many();
    keep();
    again();
    end(40, 51);
  }

  private static void sheets() {
    term("SHEETS 0 to 3 are rows of bytes (sort 0), shorts (1), ints (2), longs (3), 40 at most, or missing (at first).");
    CoarserOrders x = new CoarserOrders();
    for (int sheet = 0; sheet < 4; sheet++) {
      due("missing at first", x.put(sheet, 0, 1), -11);
    }
    for (int sheet = 0; sheet < 4; sheet++) {
      for (int sort = 0; sort < 4; sort++) {
        due("a row of forty", x.sheet(sheet, sort, 40), 1);
        due("the last of it", x.put(sheet, 39, sheet * 4 + sort), 1);
        due("it stands there", x.item(sheet, sort, 39), sheet * 4 + sort);
        due("no more", x.put(sheet, 40, 1), -12);
        for (int other = 0; other < 4; other++) {
          due("of that sort alone", x.item(sheet, other, 0), other == sort ? 0 : -13);
        }
      }
    }
    due("each has its own", x.item(0, 3, 39) * 100 + x.item(3, 3, 39), 3 * 100 + 15);
  }

  private static void sheet() {
    promise(40, "A SHEET becomes a row of n of a sort, all 0,");
    CoarserOrders x = new CoarserOrders();
    due("of none", x.sheet(3, 0, 0), 1);
    due("of none, no item", x.item(3, 0, 0), -12);
    due("of one", x.sheet(3, 0, 1), 1);
    x.put(3, 0, 5);
    due("the same anew", x.sheet(3, 0, 1), 1);
    due("all 0", x.item(3, 0, 0), 0);
    fill(x, 3, 3, 1, 2, 3);
    x.sheet(3, 3, 2);
    x.sheet(3, 3, 3);
    for (int i = 0; i < 3; i++) {
      due("all 0", x.item(3, 3, i), 0);
    }
    promise(40, "or missing (sort -1; n counts nothing then): 1.");
    for (int n : new int[] {0, 41, -1, MIN, MAX}) {
      x.sheet(3, 0, 2);
      due("missing, n " + n, x.sheet(3, -1, n), 1);
      due("it is missing", x.item(3, 0, 0), -11);
    }
    promise(40, "BAD: no such SHEET, sort, n above 40; -14.");
    for (int sheet : NONE_OF_FOUR) {
      refused("sheet " + sheet, y -> y.sheet(sheet, 0, 1), BAD);
      refused("sheet " + sheet + ", missing", y -> y.sheet(sheet, -1, 1), BAD);
      refused("sheet " + sheet + ", n -1", y -> y.sheet(sheet, 0, -1), BAD);
    }
    for (int sort : new int[] {-2, 4, MIN, MAX}) {
      refused("sort " + sort, y -> y.sheet(0, sort, 1), BAD);
      refused("sort " + sort + ", n -1", y -> y.sheet(0, sort, -1), BAD);
    }
    for (int n : new int[] {41, MAX}) {
      refused("n " + n, y -> y.sheet(0, 3, n), BAD);
    }
    for (int n : new int[] {-1, MIN}) {
      refused("n " + n, y -> y.sheet(0, 3, n), BELOW_ZERO);
      refused("n " + n + " of a missing one", y -> y.sheet(3, 0, n), BELOW_ZERO);
    }
  }

  private static void duePut(int sort, long v, int narrowed) {
    CoarserOrders x = new CoarserOrders();
    x.sheet(0, sort, 1);
    due("put " + v + " to sort " + sort, x.put(0, 0, v), 1);
    due("narrowed", x.item(0, sort, 0), narrowed);
  }

  private static void put() {
    promise(41, "Item i becomes v, narrowed to its sort: 1.");
    duePut(0, 127, 127);
    duePut(0, 128, -128);
    duePut(0, -129, 127);
    duePut(0, 256, 0);
    duePut(0, Long.MIN_VALUE, 0);
    duePut(0, Long.MAX_VALUE, -1);
    duePut(1, 32767, 32767);
    duePut(1, 32768, -32768);
    duePut(1, -32769, 32767);
    duePut(1, 65536, 0);
    duePut(2, MAX, MAX);
    duePut(2, MAX + 1L, MIN);
    duePut(2, MIN - 1L, MAX);
    duePut(2, 1L << 32, 0);
    duePut(3, 5, 5);
    CoarserOrders x = new CoarserOrders();
    x.sheet(0, 0, 3);
    x.put(0, 0, 1);
    x.put(0, 2, 3);
    due("the first", x.item(0, 0, 0), 1);
    due("none beside them", x.item(0, 0, 1), 0);
    due("the last", x.item(0, 0, 2), 3);
    promise(41, "BAD: no such SHEET; -11; -12.");
    for (int sheet : NONE_OF_FOUR) {
      refused("sheet " + sheet, y -> y.put(sheet, 0, 1), BAD);
    }
    refused("missing", y -> y.put(3, 0, 1), NOTHING);
    refused("missing, and outside", y -> y.put(3, -1, 1), NOTHING);
    for (int i : new int[] {-1, 5, MIN, MAX}) {
      refused("item " + i + " of five", y -> y.put(0, i, 1), OUTSIDE);
    }
    refused("of none", () -> withEmpty(0), y -> y.put(0, 0, 1), OUTSIDE);
  }

  private static CoarserOrders withEmpty(int sort) {
    CoarserOrders x = busy();
    x.sheet(0, sort, 0);
    return x;
  }

  private static void item() {
    promise(42, "Item i, taken for a sort (0 to 3; of longs the lowest 32 bits).");
    duePut(3, 1L << 32, 0);
    duePut(3, (1L << 32) - 1, -1);
    duePut(3, 0x7FFFFFFF80000000L, MIN);
    duePut(3, Long.MIN_VALUE, 0);
    duePut(3, Long.MAX_VALUE, -1);
    promise(42, "BAD: no such SHEET, sort; -13; -11; -12.");
    for (int sheet : NONE_OF_FOUR) {
      refused("sheet " + sheet, y -> y.item(sheet, 0, 0), BAD);
    }
    for (int sort : NONE_OF_FOUR) {
      refused("sort " + sort, y -> y.item(0, sort, 0), BAD);
      refused("sort " + sort + " of a missing one", y -> y.item(3, sort, 0), BAD);
      refused("sort " + sort + ", and outside", y -> y.item(0, sort, 40), BAD);
    }
    for (int sort = 0; sort < 4; sort++) {
      int as = sort;
      refused("missing, as sort " + as, y -> y.item(3, as, 0), NOTHING);
      refused("missing, and outside", y -> y.item(3, as, -1), NOTHING);
      if (as != 0) {
        refused("bytes as sort " + as, y -> y.item(0, as, 0), UNLIKE);
        refused("bytes as sort " + as + ", and outside", y -> y.item(0, as, -1), UNLIKE);
        refused("none of bytes, as sort " + as, () -> withEmpty(0), y -> y.item(0, as, 0), UNLIKE);
      }
    }
    for (int i : new int[] {-1, 5, MIN, MAX}) {
      refused("item " + i + " of five", y -> y.item(0, 0, i), OUTSIDE);
    }
    refused("of none", () -> withEmpty(2), y -> y.item(0, 2, 0), OUTSIDE);
    promise(42, "(An item may be as low as these, too.)");
    for (int low = -1; low >= -15; low--) {
      for (int sort = 0; sort < 4; sort++) {
        duePut(sort, low, low);
      }
    }
  }

  private static CoarserOrders withRows() {
    CoarserOrders x = new CoarserOrders();
    fill(x, 0, 1, 1, 2, 3, 4, 5);
    fill(x, 1, 1, 6, 7, 8);
    return x;
  }

  private static void dueItems(CoarserOrders x, int sheet, int sort, int... items) {
    for (int i = 0; i < items.length; i++) {
      due("item " + i, x.item(sheet, sort, i), items[i]);
    }
    due("no more", x.item(sheet, sort, items.length), -12);
  }

  private static void move() {
    promise(43, "n items of a SHEET from i on come to another one (or the same) from j on, as they all were: n.");
    CoarserOrders x = withRows();
    due("to another", x.move(0, 1, 1, 0, 2), 2);
    dueItems(x, 1, 1, 2, 3, 8);
    dueItems(x, 0, 1, 1, 2, 3, 4, 5);
    due("all of the lesser one", x.move(1, 0, 0, 2, 3), 3);
    dueItems(x, 0, 1, 1, 2, 2, 3, 8);
    x = withRows();
    due("to the same, to the right", x.move(0, 0, 0, 1, 4), 4);
    dueItems(x, 0, 1, 1, 1, 2, 3, 4);
    x = withRows();
    due("to the same, to the left", x.move(0, 1, 0, 0, 4), 4);
    dueItems(x, 0, 1, 2, 3, 4, 5, 5);
    due("all to where they are", x.move(0, 0, 0, 0, 5), 5);
    dueItems(x, 0, 1, 2, 3, 4, 5, 5);
    due("none at the ends", x.move(0, 5, 1, 3, 0), 0);
    due("none within", x.move(0, 0, 1, 0, 0), 0);
    for (int sort = 0; sort < 4; sort++) {
      CoarserOrders of = new CoarserOrders();
      fill(of, 2, sort, 7);
      of.sheet(3, sort, 40);
      due("of sort " + sort, of.move(2, 0, 3, 39, 1), 1);
      due("of sort " + sort, of.item(3, sort, 39), 7);
    }
    CoarserOrders empty = withEmpty(0);
    due("none of none", empty.move(0, 0, 0, 0, 0), 0);
    promise(43, "BAD: no such SHEETS; -11: one is missing; -13: they are of unlike sorts;");
    for (int sheet : NONE_OF_FOUR) {
      refused("from sheet " + sheet, y -> y.move(sheet, 0, 0, 0, 1), BAD);
      refused("to sheet " + sheet, y -> y.move(0, 0, sheet, 0, 1), BAD);
      refused("from a missing one to sheet " + sheet, y -> y.move(3, 0, sheet, 0, 1), BAD);
      refused("from sheet " + sheet + " to a missing one", y -> y.move(sheet, 0, 3, 0, -1), BAD);
    }
    refused("the first is missing", y -> y.move(3, 0, 0, 0, 0), NOTHING);
    refused("the other is missing", y -> y.move(0, 0, 3, 0, 0), NOTHING);
    refused("both are missing", y -> y.move(3, 0, 3, 0, 0), NOTHING);
    refused("missing, and outside", y -> y.move(0, -1, 3, -1, -1), NOTHING);
    refused("unlike", y -> y.move(0, 0, 1, 0, 1), UNLIKE);
    refused("unlike, none", y -> y.move(1, 0, 2, 0, 0), UNLIKE);
    refused("unlike, and outside", y -> y.move(2, -1, 0, 99, -5), UNLIKE);
    promise(43, "-12: n, i or j is below 0, or beyond an end.");
    int[][] outside = {
      {-1, 0, 1}, {0, -1, 1}, {0, 0, -1}, {MIN, 0, 1}, {0, MIN, 1}, {0, 0, MIN}, {-1, 0, 0}, {0, -1, 0},
      {0, 0, 4}, {0, 1, 3}, {3, 0, 3}, {5, 0, 1}, {6, 0, 0}, {0, 4, 0}, {0, 3, 1}, {0, 0, 6},
      {MAX, 0, 1}, {0, MAX, 1}, {0, 0, MAX}, {1, 1, MAX}, {MAX, MAX, MAX}, {MAX, 0, 0}, {0, MAX, 0}};
    for (int[] o : outside) {
      refused(o[2] + " from " + o[0] + " of five to " + o[1] + " of three",
          HostEdgesTest::withRows, y -> y.move(0, o[0], 1, o[1], o[2]), OUTSIDE);
    }
    refused("over its own end", HostEdgesTest::withRows, y -> y.move(0, 0, 0, 1, 5), OUTSIDE);
    refused("of its own end", HostEdgesTest::withRows, y -> y.move(0, 1, 0, 0, 5), OUTSIDE);
  }

  private static CoarserOrders withBytes(int n, long... items) {
    CoarserOrders x = busy(n);
    fill(x, 0, 0, items);
    return x;
  }

  private static void rowFrom() {
    promise(44, "N items of a SHEET taken for bytes, from item i on, as a ROW: it, as a number.");
    CoarserOrders x = withBytes(4, 3, 1, 4, 2, 3, 1);
    due("the first", x.rowFrom(0, 0), 3142);
    due("the last that there may be", x.rowFrom(0, 2), 4231);
    x.size(1);
    due("of one number", x.rowFrom(0, 5), 1);
    due("of six", withBytes(6, 6, 5, 4, 3, 2, 1).rowFrom(0, 0), 654321);
    due("by the last sheet", withLastSheet().rowFrom(3, 38), 21);
    promise(44, "BAD: no such SHEET; -13; -11; -12;");
    for (int sheet : NONE_OF_FOUR) {
      refused("sheet " + sheet, y -> y.rowFrom(sheet, 0), BAD);
    }
    refused("shorts", y -> y.rowFrom(1, 0), UNLIKE);
    refused("ints, and outside", y -> y.rowFrom(2, -1), UNLIKE);
    refused("missing", y -> y.rowFrom(3, 0), NOTHING);
    refused("missing, and outside", y -> y.rowFrom(3, MAX), NOTHING);
    for (int i : new int[] {-1, 2, 5, MIN, MAX, MAX - 3}) {
      refused("from " + i + " on of five", y -> y.rowFrom(0, i), OUTSIDE);
    }
    refused("outside, and no row", () -> withBytes(4, 0, 0, 0, 0), y -> y.rowFrom(0, 1), OUTSIDE);
    refused("one too few", () -> withBytes(6, 1, 2, 3, 4, 5), y -> y.rowFrom(0, 0), OUTSIDE);
    promise(44, "NONE: they are no ROW.");
    long[][] noRows = {
      {0, 1, 2, 3}, {1, 2, 3, 5}, {1, 1, 2, 3}, {1, 2, 3, 3}, {-1, 2, 3, 4}, {1, 2, 3, -4}, {0, 0, 0, 0},
      {0, 12, 3, 4}, {1, 1, 13, 4}, {1, 2, 2, 14}, {127, -128, 1, 2}, {1, 2, 4, -6}, {0, 0, 0, 123}};
    for (long[] items : noRows) {
      refused("no row " + items[0] + " " + items[1] + " " + items[2] + " " + items[3],
          () -> withBytes(4, items), y -> y.rowFrom(0, 0), NONE);
    }
    refused("2 of one number", () -> withBytes(1, 2), y -> y.rowFrom(0, 0), NONE);
  }

  private static CoarserOrders withLastSheet() {
    CoarserOrders x = fresh(2);
    x.sheet(3, 0, 40);
    x.put(3, 38, 2);
    x.put(3, 39, 1);
    return x;
  }

  private static void shelves() {
    term("SHELVES 0 to 3 hold a MAKER (by its number; nothing, if there is no such one at the time), a SHEET's row, or "
        + "nothing (at first).");
    CoarserOrders x = new CoarserOrders();
    for (int shelf = 0; shelf < 4; shelf++) {
      due("nothing at first", x.taken(shelf, 0), -11);
    }
    x.keep();
    x.maker(3, 1);
    for (int shelf = 0; shelf < 4; shelf++) {
      x.shelf(shelf, 0, 0);
      due("a maker", x.taken(shelf, 3), 0);
    }
    x.again();
    due("there is no such one at the time", x.taken(3, 3), -11);
    due("no act of it", x.act(3, 0, 1), 0);
    x.maker(2, 4);
    due("there is one of its number again", x.taken(3, 2), 0);
    due("of another kind", x.taken(3, 3), -13);
    fill(x, 0, 1, 5, 6);
    x.shelf(3, 1, 0);
    due("a row", x.taken(3, 11), 2);
    due("the others stay", x.taken(2, 2), 0);
  }

  private static void shelf() {
    promise(45, "A SHELF holds MAKER n (what 0), the row of SHEET n (1; nothing, if missing), nothing (2): 1.");
    CoarserOrders x = busy();
    for (int n = 0; n < 4; n++) {
      due("maker " + n, x.shelf(3, 0, n), 1);
      due("it holds it", x.taken(3, 0), n);
    }
    due("a row", x.shelf(3, 1, 0), 1);
    due("of five bytes", x.taken(3, 10), 5);
    due("a row of three ints", x.shelf(3, 1, 2), 1);
    due("it holds it", x.taken(3, 12), 3);
    due("a missing one", x.shelf(3, 1, 3), 1);
    due("it holds nothing", x.taken(3, 12), -11);
    x.sheet(3, 3, 0);
    due("a row of none", x.shelf(3, 1, 3), 1);
    due("that is not nothing", x.taken(3, 13), 0);
    for (int n : new int[] {0, -1, 4, MIN, MAX}) {
      x.shelf(3, 0, 1);
      due("nothing, whatever n", x.shelf(3, 2, n), 1);
      due("it holds nothing", x.taken(3, 0), -11);
    }
    due("nothing where nothing is", x.shelf(3, 2, 0), 1);
    promise(45, "BAD: no such SHELF, what, thing.");
    for (int shelf : NONE_OF_FOUR) {
      for (int what = 0; what < 3; what++) {
        int as = what;
        refused("shelf " + shelf + ", what " + what, y -> y.shelf(shelf, as, 0), BAD);
      }
    }
    for (int what : new int[] {-1, 3, MIN, MAX}) {
      refused("what " + what, y -> y.shelf(0, what, 0), BAD);
    }
    for (int n : new int[] {-1, 4, 5, MIN, MAX}) {
      refused("maker " + n + " of four", y -> y.shelf(1, 0, n), BAD);
      refused("sheet " + n, y -> y.shelf(0, 1, n), BAD);
    }
  }

  private static void taken() {
    promise(46, "What a SHELF holds taken for a MAKER of KIND as (0 to 5, or one under it): its number;");
    boolean[][] isUnder = {
      {true, false, false, false, false, false}, {true, true, false, false, false, false},
      {true, false, true, false, false, false}, {true, true, false, true, false, false},
      {true, true, false, false, true, false}, {true, false, true, false, false, true}};
    CoarserOrders x = new CoarserOrders();
    for (int kind = 0; kind < 6; kind++) {
      x.maker(kind, 0);
      x.shelf(0, 0, kind);
      for (int as = 0; as < 6; as++) {
        due("kind " + kind + " as " + as, x.taken(0, as), isUnder[kind][as] ? kind : -13);
      }
    }
    promise(46, "for a row of sort as - 10 (as 10 to 13): how many items.");
    for (int sort = 0; sort < 4; sort++) {
      x.sheet(0, sort, 40 - sort);
      x.shelf(0, 1, 0);
      for (int as = 10; as <= 13; as++) {
        due("sort " + sort + " as " + as, x.taken(0, as), as == 10 + sort ? 40 - sort : -13);
      }
    }
    promise(46, "BAD: no such SHELF, as; -13; -11.");
    for (int shelf : NONE_OF_FOUR) {
      refused("shelf " + shelf, y -> y.taken(shelf, 0), BAD);
      refused("shelf " + shelf + " as a row", y -> y.taken(shelf, 10), BAD);
    }
    for (int as : new int[] {-1, 6, 9, 14, MIN, MAX}) {
      refused("a maker as " + as, y -> y.taken(0, as), BAD);
      refused("a row as " + as, y -> y.taken(1, as), BAD);
      refused("nothing as " + as, y -> y.taken(3, as), BAD);
    }
    for (int as = 10; as <= 13; as++) {
      int sort = as;
      refused("a maker as " + as, y -> y.taken(0, sort), UNLIKE);
      refused("nothing as " + as, y -> y.taken(3, sort), NOTHING);
    }
    for (int as = 0; as < 6; as++) {
      int kind = as;
      refused("a row as " + as, y -> y.taken(1, kind), UNLIKE);
      refused("nothing as " + as, y -> y.taken(3, kind), NOTHING);
    }
    refused("bytes as shorts", y -> y.taken(1, 11), UNLIKE);
    refused("both as longer", y -> y.taken(0, 2), UNLIKE);
  }

  /** Shelf 0 holds a MAKER of that KIND, number, m. */
  private static CoarserOrders withMaker(int kind, int number, int m) {
    CoarserOrders x = new CoarserOrders();
    for (int i = 0; i < number; i++) {
      x.maker(0, 0);
    }
    x.maker(kind, m);
    x.shelf(0, 0, number);
    return x;
  }

  private static void dueAct(CoarserOrders x, int act, int v, int answer, int... bodies) {
    due("act " + act + " of " + v, x.act(0, act, v), answer);
    dueTrace(x, bodies);
  }

  private static void dueTrace(CoarserOrders x, int... bodies) {
    due("how many bodies", x.many(8), bodies.length);
    for (int i = 0; i < bodies.length; i++) {
      due("body " + i, x.trace(i), bodies[i]);
    }
    due("no more", x.trace(bodies.length), -3);
  }

  private static void bodies() {
    term("10 turns: x * 5 + n. 11 bends: turns(x) - m. 12 parts: x by (m - n), cut (-15 if that is 0;");
    CoarserOrders x = withMaker(0, 2, 5);
    dueAct(x, TURNS, 7, 37, 10);
    dueAct(x, BENDS, 7, 32, 11, 10);
    dueAct(x, PARTS, 8, 2, 12);
    dueAct(x, PARTS, -8, -2, 12);
    dueAct(x, PARTS, 2, 0, 12);
    dueAct(x, PARTS, -2, 0, 12);
    dueAct(withMaker(0, 4, 0), PARTS, 7, -1, 12);
    dueAct(withMaker(0, 4, 0), PARTS, -7, 1, 12);
    term("13 joins: bends(x) ^ parts(x + 1).");
    dueAct(x, JOINS, 7, 32 ^ 2, 13, 11, 10, 12);
  }

  private static void wrapping() {
    term("ACTS of a MAKER by its KIND, with a number x (ints that wrap): 0 turns, 1 bends, 2 parts, 3 joins; n: its number.");
    dueAct(withMaker(0, 0, 3), TURNS, MAX, 2147483643, 10);
    dueAct(withMaker(0, 5, 3), TURNS, MAX, -2147483648, 10);
    dueAct(withMaker(0, 0, 3), BENDS, MIN, 2147483645, 11, 10);
    dueAct(withMaker(0, 1, 0), PARTS, MIN, MIN, 12);
    dueAct(withMaker(0, 0, 1), PARTS, MIN, MIN, 12);
    dueAct(withMaker(0, 0, 1), JOINS, MAX, (MAX * 5 - 1) ^ MIN, 13, 11, 10, 12);
    dueAct(withMaker(3, 0, 0), TURNS, MAX, -((MIN + 1) * 5 ^ 9), 40, 20, 10);
    dueAct(withMaker(2, 0, 0), BENDS, MAX, MAX * 15, 30, 11, 10);
    dueAct(withMaker(5, 0, 15), PARTS, MIN, ((MIN - 15) / 15) ^ 5, 60, 31, 12, 10);
  }

  private static void parting() {
    term("(-15 if that is 0; that is all that act() answers then)");
    dueAct(withMaker(0, 0, 0), PARTS, 7, -15, 12);
    dueAct(withMaker(0, 5, 5), PARTS, 0, -15, 12);
    dueAct(withMaker(0, 3, 3), JOINS, 7, -15, 13, 11, 10, 12);
    dueAct(withMaker(0, 3, 3), BENDS, 7, 35, 11, 10);
    dueAct(withMaker(2, 3, 3), PARTS, 7, -15, 31, 12);
    dueAct(withMaker(2, 3, 3), JOINS, 7, -15, 13, 30, 11, 10, 31, 12);
    dueAct(withMaker(4, 3, 3), JOINS, 7, -15, 50, 13, 11, 20, 10, 12);
    dueAct(withMaker(5, 3, 3), PARTS, 7, -15, 60, 31, 12);
    dueAct(withMaker(5, 3, 3), JOINS, 7, -15, 61, 13, 30, 11, 10, 60, 31, 12);
    CoarserOrders x = withMaker(0, 3, 3);
    x.act(0, PARTS, 7);
    dueAct(x, TURNS, 1, 8, 10);
    dueAct(withMaker(0, 0, 1), TURNS, -3, -15, 10);
  }

  private static void superBodies() {
    term("turns(..) and so on: the body of its own KIND, or of the next KIND above that has one; super: from the KIND above "
        + "the body's on.");
    CoarserOrders under = withMaker(5, 1, 3);
    dueAct(under, TURNS, 4, 21, 10);
    dueAct(under, BENDS, 4, 18 * 3, 30, 11, 10);
    term("lefty: 20 turns: super.turns(x) ^ 9.");
    CoarserOrders lefty = withMaker(1, 1, 3);
    dueAct(lefty, TURNS, 4, 21 ^ 9, 20, 10);
    dueAct(lefty, BENDS, 4, (21 ^ 9) - 3, 11, 20, 10);
    dueAct(lefty, PARTS, 9, 4, 12);
    dueAct(lefty, JOINS, 4, ((21 ^ 9) - 3) ^ 2, 13, 11, 20, 10, 12);
    term("longer: 30 bends: super.bends(x) * 3. 31 parts: super.parts(x) + turns(n).");
    CoarserOrders longer = withMaker(2, 1, 3);
    dueAct(longer, TURNS, 4, 21, 10);
    dueAct(longer, BENDS, 4, 18 * 3, 30, 11, 10);
    dueAct(longer, PARTS, 9, 4 + 6, 31, 12, 10);
    dueAct(longer, JOINS, 8, 38 * 3 ^ 4 + 6, 13, 30, 11, 10, 31, 12, 10);
    term("both: 40 turns: 0 - super.turns(x + 2).");
    CoarserOrders both = withMaker(3, 1, 3);
    dueAct(both, TURNS, 4, -(31 ^ 9), 40, 20, 10);
    dueAct(both, BENDS, 4, -(31 ^ 9) - 3, 11, 40, 20, 10);
    dueAct(both, JOINS, 4, (-(31 ^ 9) - 3) ^ 2, 13, 11, 40, 20, 10, 12);
    term("signed: 50 joins: super.joins(x) - bends(m).");
    CoarserOrders signed = withMaker(4, 1, 3);
    dueAct(signed, TURNS, 4, 21 ^ 9, 20, 10);
    dueAct(signed, JOINS, 4, (((21 ^ 9) - 3) ^ 2) - ((16 ^ 9) - 3), 50, 13, 11, 20, 10, 12, 11, 20, 10);
    term("mixed: 60 parts: super.parts(x - m) ^ 5. 61 joins: super.joins(x) + bends(1).");
    CoarserOrders mixed = withMaker(5, 1, 3);
    dueAct(mixed, TURNS, 4, 21, 10);
    dueAct(mixed, BENDS, 4, 18 * 3, 30, 11, 10);
    dueAct(mixed, PARTS, 9, 3 + 6 ^ 5, 60, 31, 12, 10);
    dueAct(mixed, JOINS, 9, (43 * 3 ^ (3 + 6 ^ 5)) + 3 * 3, 61, 13, 30, 11, 10, 60, 31, 12, 10, 30, 11, 10);
    term("Quotients are cut towards 0.");
    dueAct(lefty, PARTS, -9, -4, 12);
    dueAct(mixed, PARTS, 0, -1 + 6 ^ 5, 60, 31, 12, 10);
  }

  private static void tracing() {
    term("THE TRACE: numbers of the bodies that ran in the latest act(), as they began (left first); the first 30 are kept.");
    CoarserOrders x = withMaker(5, 1, 3);
    dueTrace(x);
    x.act(0, JOINS, 1);
    due("as many as there can be", x.many(8), 12);
    x.act(0, TURNS, 1);
    dueTrace(x, 10);
    x.sheet(0, 0, 1);
    x.clear();
    x.again();
    dueTrace(x, 10);
  }

  private static void act() {
    promise(47, "An ACT (0 to 3) of the MAKER on a SHELF, with x. 0, and no TRACE then: no such SHELF, act, nothing, a row.");
    for (int shelf : NONE_OF_FOUR) {
      noAct("shelf " + shelf, shelf, 0);
    }
    for (int act : NONE_OF_FOUR) {
      noAct("act " + act, 2, act);
      noAct("act " + act + " of nothing", 3, act);
    }
    noAct("nothing", 3, 0);
    noAct("a row", 1, 0);
    CoarserOrders x = busy();
    due("a maker of any shelf", x.shelf(3, 0, 3), 1);
    due("signed bends", x.act(3, 1, 1), (8 ^ 9) - 6);
  }

  /** Nothing but THE TRACE is another one behind it. */
  private static void noAct(String call, int shelf, int act) {
    CoarserOrders x = busy();
    due("there was a trace", x.many(8), 3);
    due(call, x.act(shelf, act, 6), 0);
    dueTrace(x);
    CoarserOrders other = busy();
    other.act(3, 0, 0);
    due("no more is changed", look(x).equals(look(other)) ? 1 : 0, 1);
  }

  private static void trace() {
    promise(48, "THE TRACE's i-th body. NONE.");
    CoarserOrders x = withMaker(2, 0, 1);
    x.act(0, BENDS, 1);
    due("the first", x.trace(0), 30);
    due("the last", x.trace(2), 10);
    for (int i : new int[] {-1, 3, 29, 30, 31, MIN, MAX}) {
      refused("body " + i + " of three", y -> y.trace(i), NONE);
    }
    refused("none yet", CoarserOrders::new, y -> y.trace(0), NONE);
  }

  private static void many() {
    promise(49, "what = 0 N, 1 ARCS, 2 those GONE, 3 CLASSES, 4 pairs of CLASSES of which one is RIGHT UNDER the other one, "
        + "5 MAKERS, 6 STEPS, 7 bytes of THE TAPE, 8 bodies of THE TRACE (those kept, 30 at most).");
    int[] ofNone = {4, 11, 0, 24, 36, 0, 0, 0, 0};
    int[] ofOne = {1, 0, 0, 1, 0, 0, 0, 0, 0};
    int[] ofSix = {6, 57, 0, 720, 1800, 0, 0, 0, 0};
    int[] ofSixGone = {6, 57, 57, 1, 0, 6, 15, 200, 12};
    for (int what = 0; what < 9; what++) {
      due("new, " + what, new CoarserOrders().many(what), ofNone[what]);
      due("of one, " + what, fresh(1).many(what), ofOne[what]);
      due("of six, " + what, fresh(6).many(what), ofSix[what]);
      due("of six, full, " + what, full().many(what), ofSixGone[what]);
    }
    promise(49, "BAD: another what.");
    for (int what : new int[] {-1, 9, MIN, MAX}) {
      refused("what " + what, y -> y.many(what), BAD);
    }
  }

  private static CoarserOrders full() {
    CoarserOrders x = fresh(6);
    x.collapse(123456, 654321);
    x.prove(654321);
    for (int i = 0; i < 6; i++) {
      x.maker(5, 7);
    }
    for (int i = 0; i < 25; i++) {
      x.feed(0x2020202020202020L, 8);
    }
    x.shelf(0, 0, 0);
    x.act(0, JOINS, 3);
    return x;
  }

  private static void keep() {
    promise(50, "N, GONE, MAKERS, z are kept: 1.");
    CoarserOrders x = busy();
    due("kept", x.keep(), 1);
    long gone = x.gone();
    x.size(6);
    x.collapse(123456, 654321);
    x.maker(0, 0);
    x.seed(-5);
    due("so many are gone again", x.again(), Long.bitCount(gone));
    due("gone", x.gone(), gone);
    due("N", x.many(0), 4);
    due("makers", x.many(5), 4);
    due("z", x.seed(1), 78);
    due("nothing at all", new CoarserOrders().keep(), 1);
    CoarserOrders one = fresh(1);
    one.seed(MIN);
    one.keep();
    one.size(2);
    one.seed(0);
    due("nothing gone of one number", one.again(), 0);
    due("of one number", one.many(0), 1);
    due("the least z", one.seed(0), MIN);
    CoarserOrders full = full();
    full.keep();
    full.size(5);
    due("all gone of six", full.again(), 57);
    due("as many makers as there may be", full.maker(0, 0), -2);
  }

  private static void again() {
    promise(51, "They become what was kept latest (which stays): how many ARCS are GONE.");
    CoarserOrders x = new CoarserOrders();
    x.maker(1, 1);
    x.contract(0);
    x.keep();
    x.maker(2, 2);
    x.contract(10);
    x.keep();
    x.maker(3, 3);
    x.clear();
    due("the latest", x.again(), 10);
    due("its makers", x.many(5), 2);
    x.clear();
    x.maker(4, 4);
    x.maker(5, 5);
    due("it stays", x.again(), 10);
    due("its makers stay", x.many(5), 2);
    due("the latter one", x.makerIs(1, 0) * 16 + x.makerIs(1, 1), 34);
    due("one more comes behind them", x.maker(0, 9), 2);
    x.contract(7);
    x.again();
    due("what came since is not kept", x.many(2) * 10 + x.many(5), 102);
    CoarserOrders other = busy();
    String rest = restOf(other);
    other.again();
    due("nothing else is changed", restOf(other).equals(rest) ? 1 : 0, 1);
    promise(51, "NONE: nothing is kept.");
    refused("new", CoarserOrders::new, y -> y.again(), NONE);
    refused("of six, full", HostEdgesTest::full, y -> y.again(), NONE);
  }

  /** STEPS, THE TRACE, SHEETS, how much is on THE TAPE. */
  private static String restOf(CoarserOrders x) {
    StringBuilder seen = new StringBuilder();
    seen.append(x.many(6)).append(' ').append(x.many(7)).append(' ').append(x.many(8));
    for (int i = 0; i < 7; i++) {
      seen.append(' ').append(x.step(i, 0)).append(' ').append(x.step(i, 1)).append(' ').append(x.trace(i));
      seen.append(' ').append(x.item(0, 0, i)).append(' ').append(x.item(1, 1, i)).append(' ').append(x.item(2, 2, i));
    }
    return seen.toString();
  }
}
