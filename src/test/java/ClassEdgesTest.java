/** The edges that the document names of CLASSES, and of what is told by which ROWS are ALIKE: promises 24 to 33. */
public final class ClassEdgesTest extends Edges {
  private static final int[] FIRST_ROWS = {0, 1, 12, 123, 1234, 12345, 123456};
  private static final int[] LAST_ROWS = {0, 1, 21, 321, 4321, 54321, 654321};
  private static final int[] ROW_COUNTS = {0, 1, 2, 6, 24, 120, 720};
  private static final int[] NO_ROWS = {0, 123, 12345, 1134, -1234, MIN, MAX};

  public static void main(String[] args) {
    alikeRows();
    alike();
    aClass();
    classAt();
    under();
    classes();
    rightUnder();
    rotations();
    rotate();
    farApart();
    apart();
    waysUp();
    wayUp();
    list();
    listed();
    closed();
    threes();
    whatIs();
    end(24, 33);
  }

  /** The only ARC that is GONE makes 213 and 231 ALIKE; 123, 132, 312, 321 stay alone. */
  private static CoarserOrders pentagon() {
    CoarserOrders x = fresh(3);
    x.contract(2);
    return x;
  }

  /** All are ALIKE. */
  private static CoarserOrders allGone(int n) {
    CoarserOrders x = fresh(n);
    x.collapse(FIRST_ROWS[n], LAST_ROWS[n]);
    return x;
  }

  private static void alikeRows() {
    term("Two ROWS are ALIKE, if one comes from the other by swaps of two numbers BESIDE one another (at places p, p + 1), "
        + "none or more,");
    for (int n = 1; n <= 6; n++) {
      CoarserOrders x = fresh(n);
      due("by none: alone in " + n, x.alike(LAST_ROWS[n], 2), 1);
      due("by none: least", x.alike(LAST_ROWS[n], 0), LAST_ROWS[n]);
      due("by none: greatest", x.alike(FIRST_ROWS[n], 1), FIRST_ROWS[n]);
    }
    due("by one", pentagon().alike(231, 2), 2);
    due("by as many as there can be", allGone(6).alike(654321, 0), 123456);
    due("by as many as there can be", allGone(6).alike(654321, 2), 720);
    term("each of which makes, or takes away, a DROP the ARC of which is GONE.");
    due("one that takes it away", pentagon().alike(231, 0), 213);
    due("one that makes it", pentagon().alike(213, 1), 231);
    due("not that of an arc that is not gone", pentagon().alike(321, 2) + pentagon().alike(132, 2), 2);
    term("LEAST of a ROW: that of those ALIKE that is BELOW all of them; GREATEST: that which all of them are BELOW.");
    due("of the least itself", pentagon().alike(213, 0), 213);
    due("of the greatest itself", pentagon().alike(231, 1), 231);
    due("of one in the midst", allGone(5).alike(31425, 0), 12345);
    due("of one in the midst", allGone(5).alike(31425, 1), 54321);
  }

  private static void aClass() {
    term("A CLASS: all that are ALIKE; it is told by its LEAST one.");
    CoarserOrders x = pentagon();
    due("one of two", x.classAt(2), 213);
    due("as many as are left", x.many(3), 5);
    due("one of one", x.classAt(0), 123);
    due("as many as rows, where none is gone", fresh(6).many(3), 720);
    due("one, where all are gone", allGone(6).many(3), 1);
  }

  private static void alike() {
    promise(24, "LEAST of a ROW (what 0), GREATEST (1), how many are ALIKE to it (2; itself, too). BAD.");
    due("itself, too", pentagon().alike(123, 2), 1);
    CoarserOrders four = fresh(4);
    four.contract(0);
    due("1243, 2143, 2413, 2431 of ten from the first to the last of these", four.alike(2413, 2), 4);
    due("of one number", fresh(1).alike(1, 0) + fresh(1).alike(1, 1) + fresh(1).alike(1, 2), 3);
    for (int what : new int[] {-1, 3, MIN, MAX}) {
      refused("what " + what, x -> x.alike(1234, what), BAD);
    }
    for (int row : NO_ROWS) {
      refused("no row " + row, x -> x.alike(row, 0), BAD);
    }
  }

  private static void classAt() {
    promise(25, "The CLASS (its LEAST ROW) as which i CLASSES have LEAST ROWS that are less as numbers.");
    int[] least = {123, 132, 213, 312, 321};
    for (int i = 0; i < 5; i++) {
      due("class " + i, pentagon().classAt(i), least[i]);
    }
    for (int n = 1; n <= 6; n++) {
      due("the first of " + n, fresh(n).classAt(0), FIRST_ROWS[n]);
      due("the last of " + n, fresh(n).classAt(ROW_COUNTS[n] - 1), LAST_ROWS[n]);
      due("the only one of " + n, allGone(n).classAt(0), FIRST_ROWS[n]);
    }
    promise(25, "BAD: there is none.");
    refused("as many as there are", ClassEdgesTest::pentagon, x -> x.classAt(5), BAD);
    for (int n = 1; n <= 6; n++) {
      int size = n;
      refused("as many as rows", () -> fresh(size), x -> x.classAt(ROW_COUNTS[size]), BAD);
      refused("a second one where all are alike", () -> allGone(size), x -> x.classAt(1), BAD);
    }
    for (int i : new int[] {-1, MIN, MAX}) {
      refused("class " + i, x -> x.classAt(i), BAD);
    }
  }

  private static void under() {
    term("A CLASS is UNDER another one (and itself), if its LEAST ROW is BELOW that of the other one;");
    CoarserOrders x = pentagon();
    due("itself", x.classes(213, 213, 0), 1);
    due("itself by other rows", x.classes(231, 213, 0), 1);
    due("by rows that are not below", x.classes(213, 231, 0), 1);
    due("the first", x.classes(123, 231, 0), 1);
    due("the last", x.classes(231, 321, 0), 1);
    due("not the other way", x.classes(321, 231, 0), 0);
    due("neither", x.classes(231, 312, 0) + x.classes(312, 231, 0), 0);
    due("all are one", allGone(4).classes(4321, 1234, 0), 1);
  }

  private static void classes() {
    promise(26, "what = 0 1 if the first is UNDER the other one, else 0, 1 the CLASS that is UNDER both, and UNDER which "
        + "are all such, 2 that which both are UNDER, and which is UNDER all such.");
    CoarserOrders x = pentagon();
    due("lower one with itself", x.classes(231, 231, 1), 213);
    due("upper one with itself", x.classes(231, 213, 2), 213);
    due("lower one with the first", x.classes(231, 123, 1), 123);
    due("upper one with the last", x.classes(231, 321, 2), 321);
    due("lower one of two apart", x.classes(231, 312, 1), 123);
    due("upper one of two apart", x.classes(132, 213, 2), 321);
    due("of one number", fresh(1).classes(1, 1, 1) + fresh(1).classes(1, 1, 2), 2);
    due("where all are alike", allGone(6).classes(654321, 654321, 2), 123456);
    promise(26, "BAD.");
    for (int what : new int[] {-1, 3, MIN, MAX}) {
      refused("what " + what, y -> y.classes(1234, 4321, what), BAD);
    }
    for (int row : NO_ROWS) {
      refused("the first is no row: " + row, y -> y.classes(row, 1234, 0), BAD);
      refused("the other is no row: " + row, y -> y.classes(1234, row, 0), BAD);
    }
  }

  private static void rightUnder() {
    term("RIGHT UNDER: it is another one, and no third one stands between.");
    CoarserOrders x = pentagon();
    due("not itself", allGone(4).rotations(1234, 0), 0);
    due("two under the last", x.rotations(321, 0), 2);
    due("one is told by its least row", x.rotate(321, 0, 0), 213);
    due("the other", x.rotate(321, 1, 0), 312);
    due("132 stands between 123 and 312", x.rotations(312, 0), 1);
    due("132", x.rotate(312, 0, 0), 132);
    due("none under the first", x.rotations(123, 0), 0);
    due("none over the last", x.rotations(321, 1), 0);
    due("pairs", x.many(4), 5);
  }

  private static void rotations() {
    promise(27, "How many CLASSES are RIGHT UNDER that of a ROW (way 0), how many it is RIGHT UNDER (1). BAD.");
    for (int n = 1; n <= 6; n++) {
      due("as many as can be under, " + n, fresh(n).rotations(LAST_ROWS[n], 0), n - 1);
      due("as many as can be over, " + n, fresh(n).rotations(FIRST_ROWS[n], 1), n - 1);
      due("none under", fresh(n).rotations(FIRST_ROWS[n], 0), 0);
      due("none over", fresh(n).rotations(LAST_ROWS[n], 1), 0);
    }
    due("of a row that is not least", pentagon().rotations(231, 0), 1);
    due("of a row that is not greatest", pentagon().rotations(213, 1), 1);
    for (int way : new int[] {-1, 2, MIN, MAX}) {
      refused("way " + way, x -> x.rotations(1234, way), BAD);
    }
    for (int row : NO_ROWS) {
      refused("no row " + row, x -> x.rotations(row, 0), BAD);
    }
  }

  private static void rotate() {
    promise(28, "The k-th (from 0) of these, by LEAST ROWS as numbers.");
    int[] under = {564321, 645321, 653421, 654231, 654312};
    int[] over = {123465, 123546, 124356, 132456, 213456};
    for (int k = 0; k < 5; k++) {
      due("under, " + k, fresh(6).rotate(654321, k, 0), under[k]);
      due("over, " + k, fresh(6).rotate(123456, k, 1), over[k]);
    }
    due("the class of a row that is not least", pentagon().rotate(231, 0, 1), 321);
    due("by the least row", pentagon().rotate(123, 1, 1), 213);
    promise(28, "BAD (k below 0, too);");
    for (int k : new int[] {-1, MIN}) {
      refused("k " + k, x -> x.rotate(4321, k, 0), BAD);
    }
    for (int way : new int[] {-1, 2, MIN, MAX}) {
      refused("way " + way, x -> x.rotate(4321, 0, way), BAD);
      refused("way " + way + ", and not so many", x -> x.rotate(4321, 99, way), BAD);
    }
    for (int row : NO_ROWS) {
      refused("no row " + row, x -> x.rotate(row, 0, 0), BAD);
      refused("no row, and not so many", x -> x.rotate(row, MAX, 1), BAD);
    }
    promise(28, "NONE: there are not so many.");
    refused("as many as there are, under", ClassEdgesTest::pentagon, x -> x.rotate(321, 2, 0), NONE);
    refused("as many as there are, over", ClassEdgesTest::pentagon, x -> x.rotate(123, 2, 1), NONE);
    refused("none under the first", x -> x.rotate(1234, 0, 0), NONE);
    refused("none over the last", x -> x.rotate(4321, 0, 1), NONE);
    refused("MAX", x -> x.rotate(4321, MAX, 0), NONE);
    refused("of one number", () -> fresh(1), x -> x.rotate(1, 0, 0), NONE);
    refused("N - 1 of six", () -> fresh(6), x -> x.rotate(654321, 5, 0), NONE);
  }

  private static void farApart() {
    term("the fewest steps from a CLASS to another one, each from one to one RIGHT UNDER it, or the other way.");
    CoarserOrders x = pentagon();
    due("down", x.apart(321, 123), 2);
    due("up", x.apart(123, 321), 2);
    due("one step down", x.apart(321, 231), 1);
    due("down, then up", x.apart(132, 213), 2);
    due("up, then down", x.apart(312, 213), 2);
    due("rows that are alike", x.apart(213, 231), 0);
  }

  private static CoarserOrders busyOfSix() {
    return busy(6);
  }

  private static void apart() {
    promise(29, "How far the CLASSES of two ROWS are APART.");
    int[] most = {0, 0, 1, 3, 6, 10};
    for (int n = 1; n <= 5; n++) {
      due("a row from itself", fresh(n).apart(LAST_ROWS[n], LAST_ROWS[n]), 0);
      due("the farthest", fresh(n).apart(FIRST_ROWS[n], LAST_ROWS[n]), most[n]);
      due("all are one", allGone(n).apart(FIRST_ROWS[n], LAST_ROWS[n]), 0);
    }
    promise(29, "BAD; STATE: N is 6.");
    for (int row : NO_ROWS) {
      refused("the first is no row: " + row, x -> x.apart(row, 1234), BAD);
      refused("the other is no row: " + row, x -> x.apart(1234, row), BAD);
    }
    refused("the first is no row of six", ClassEdgesTest::busyOfSix, x -> x.apart(12345, 123456), BAD);
    refused("the other is no row of six", ClassEdgesTest::busyOfSix, x -> x.apart(123456, 12345), BAD);
    refused("two rows of six", ClassEdgesTest::busyOfSix, x -> x.apart(123456, 654321), STATE);
    refused("a row of six and itself", ClassEdgesTest::busyOfSix, x -> x.apart(123456, 123456), STATE);
  }

  private static void waysUp() {
    term("steps from the CLASS of 12 .. N to that of N .. 21, each to one of which this one is RIGHT UNDER.");
    due("the longer side", pentagon().wayUp(0), 3);
    due("the shorter side", pentagon().wayUp(1), 2);
    CoarserOrders x = fresh(3);
    x.contract(3);
    due("12 and 21 alone stay", x.wayUp(0) * 10 + x.wayUp(1), 11);
  }

  private static void wayUp() {
    promise(30, "The most steps of a WAY UP (what 0), the fewest (1).");
    int[] most = {0, 0, 1, 3, 6, 10};
    for (int n = 1; n <= 5; n++) {
      due("the most of " + n, fresh(n).wayUp(0), most[n]);
      due("the fewest of " + n, fresh(n).wayUp(1), most[n]);
      due("where all are one", allGone(n).wayUp(0) + allGone(n).wayUp(1), 0);
    }
    CoarserOrders walked = fresh(4);
    walked.apart(4321, 1324);
    due("behind other walks", walked.wayUp(0) * 10 + walked.wayUp(1), 66);
    due("those behind it", walked.apart(1324, 1234), 1);
    promise(30, "BAD; STATE: N is 6.");
    for (int what : new int[] {-1, 2, MIN, MAX}) {
      refused("what " + what, x -> x.wayUp(what), BAD);
      refused("what " + what + " of six", ClassEdgesTest::busyOfSix, x -> x.wayUp(what), BAD);
    }
    refused("of six", ClassEdgesTest::busyOfSix, x -> x.wayUp(0), STATE);
    refused("of six, the fewest", ClassEdgesTest::busyOfSix, x -> x.wayUp(1), STATE);
  }

  private static void dueList(CoarserOrders x, int... rows) {
    for (int i = 0; i < rows.length; i++) {
      due("row " + i, x.listed(i), rows[i]);
    }
    due("no more", x.listed(rows.length), -3);
  }

  private static void list() {
    term("THE LIST: its first ROW is 12 .. N.");
    for (int n = 1; n <= 5; n++) {
      due("of " + n, fresh(n).listed(0), FIRST_ROWS[n]);
      due("of " + n + ", all alike", allGone(n).listed(0), FIRST_ROWS[n]);
    }
    term("Then, from the ROW that came last, for v = N, N - 1, .. 2: first to the left, then to the right:");
    dueList(fresh(3), 123, 132, 312, 321, 231, 213);
    dueList(fresh(2), 12, 21);
    term("of the JUMPS of v that way that may be (by 1, 2, .. places) the nearest that gives a ROW that is LEAST of itself;");
    dueList(pentagon(), 123, 132, 312, 321, 213);
    CoarserOrders x = fresh(3);
    x.contract(1);
    dueList(x, 123, 132);
    term("if that ROW is not in THE LIST, it comes to it, and all goes on from it.");
    x.contract(3);
    dueList(x, 123, 213);
    term("It ends where no ROW comes.");
    dueList(fresh(1), 1);
    CoarserOrders early = fresh(3);
    early.contract(1);
    due("ahead of all classes", early.many(3), 5);
    dueList(early, 123, 132);
    dueList(allGone(2), 12);
    dueList(allGone(5), 12345);
    CoarserOrders five = fresh(5);
    due("of five the last", five.listed(119), 21345);
    due("and no more", five.listed(120), -3);
  }

  private static void listed() {
    promise(31, "ROW i (from 0) of THE LIST.");
    CoarserOrders x = pentagon();
    due("the last", x.listed(4), 213);
    x.clear();
    due("other arcs are gone", x.listed(4), 231);
    x.size(4);
    due("another N", x.listed(1), 1243);
    x.size(3);
    due("the first N", x.listed(1), 132);
    promise(31, "BAD: i is below 0;");
    for (int i : new int[] {-1, MIN}) {
      refused("row " + i, y -> y.listed(i), BAD);
      refused("row " + i + " of six", ClassEdgesTest::busyOfSix, y -> y.listed(i), BAD);
    }
    promise(31, "STATE: N is 6;");
    refused("the first of six", ClassEdgesTest::busyOfSix, y -> y.listed(0), STATE);
    refused("one that it can't have", ClassEdgesTest::busyOfSix, y -> y.listed(MAX), STATE);
    promise(31, "NONE: it has not so many.");
    refused("as many as it has", ClassEdgesTest::pentagon, y -> y.listed(5), NONE);
    refused("as many as there are rows", () -> fresh(4), y -> y.listed(24), NONE);
    refused("of one number", () -> fresh(1), y -> y.listed(1), NONE);
    refused("MAX", y -> y.listed(MAX), NONE);
  }

  private static void closed() {
    promise(32, "How many sets of ARCS there are with each ARC of which all are in it that it FORCES (what 0),");
    int[] many = {0, 1, 2, 7, 60, 3444};
    for (int n = 1; n <= 5; n++) {
      due("of " + n + ", the empty one and that of all, too", fresh(n).closed(0), many[n]);
      due("whatever is gone", allGone(n).closed(0), many[n]);
    }
    promise(32, "how many of these have all in them that are GONE (1).");
    for (int n = 1; n <= 5; n++) {
      due("all, where none is gone", fresh(n).closed(1), many[n]);
      due("one, where all are gone", allGone(n).closed(1), 1);
    }
    due("those of {0, 1, 2, 3} with 2 in them", pentagon().closed(1), 5);
    CoarserOrders x = fresh(3);
    x.contract(0);
    due("the set itself, and that of all", x.closed(1), 2);
    promise(32, "BAD; STATE: N is 6.");
    for (int what : new int[] {-1, 2, MIN, MAX}) {
      refused("what " + what, y -> y.closed(what), BAD);
      refused("what " + what + " of six", ClassEdgesTest::busyOfSix, y -> y.closed(what), BAD);
    }
    refused("of six", ClassEdgesTest::busyOfSix, y -> y.closed(0), STATE);
    refused("of six, with those gone", ClassEdgesTest::busyOfSix, y -> y.closed(1), STATE);
  }

  /** Of three numbers: 46 pairs make nothing GONE, 38 only ARC 2, 8 only ARC 1, 2 both, 2 all. */
  private static CoarserOrders withThrees(long... items) {
    CoarserOrders x = fresh(3);
    fill(x, 0, 2, items);
    return x;
  }

  private static void dueThrees(String what, int many, int first, long... items) {
    CoarserOrders x = withThrees(items);
    due(what + ": how many", x.whatIs(0, 0), many);
    due(what + ": the first", x.whatIs(0, 1), first);
  }

  private static void threes() {
    term("a SHEET of ints tells by threes two ROWS, and whether they are ALIKE (1, 0).");
    dueThrees("alike", 42, 16, 213, 231, 1);
    dueThrees("not alike", 54, 0, 213, 231, 0);
    dueThrees("told the other way", 42, 16, 231, 213, 1);
    dueThrees("a row and itself", 96, 0, 321, 321, 1);
    dueThrees("a row and itself, not", 0, -3, 321, 321, 0);
    term("Those KINDS (0 to 5) and m (0 to 15) by which, just what such a MAKER TAKES being GONE, and what that FORCES, "
        + "all threes are so");
    dueThrees("two threes", 4, 32, 213, 231, 1, 132, 312, 1);
    dueThrees("only by signed ones", 8, 65, 132, 312, 1, 213, 231, 0);
    dueThrees("by what is forced", 2, 32, 123, 213, 1);
    dueThrees("none by two that bar one another", 0, -3, 213, 231, 1, 213, 231, 0);
    dueThrees("the last three is not so", 0, -3, 213, 231, 1, 132, 312, 1, 123, 123, 0);
    dueThrees("no three", 96, 0);
    CoarserOrders x = withThrees(213, 231, 1);
    x.contract(0);
    due("whatever is gone", x.whatIs(0, 0), 42);
    due("which stays", x.gone(), 7);
    x.clear();
    due("whatever is gone", x.whatIs(0, 1), 16);
    due("which stays", x.gone(), 0);
    term("(by none, if a three lacks something, has no ROW, or another last number)");
    dueThrees("it lacks one", 0, -3, 213, 231);
    dueThrees("it lacks two", 0, -3, 213);
    dueThrees("the second lacks two", 0, -3, 213, 231, 1, 213);
    dueThrees("the second lacks one", 0, -3, 213, 231, 1, 213, 213);
    dueThrees("the first is no row", 0, -3, 212, 231, 0);
    dueThrees("the second is no row", 0, -3, 213, 0, 0);
    dueThrees("neither is a row", 0, -3, 0, 0, 1);
    dueThrees("neither is a row, not alike", 0, -3, 0, 0, 0);
    dueThrees("rows of another N", 0, -3, 1234, 1234, 1);
    dueThrees("a last number 2", 0, -3, 213, 231, 2);
    dueThrees("a last number -1", 0, -3, 213, 231, -1);
    CoarserOrders full = fresh(1);
    full.sheet(0, 2, 40);
    for (int i = 0; i < 40; i++) {
      full.put(0, i, 1);
    }
    due("a full sheet lacks two", full.whatIs(0, 0), 0);
    full.sheet(0, 2, 39);
    for (int i = 0; i < 39; i++) {
      full.put(0, i, 1);
    }
    due("as many threes as can be", full.whatIs(0, 0), 96);
    full.put(0, 38, 0);
    due("the last of them is not so", full.whatIs(0, 0), 0);
  }

  private static void whatIs() {
    promise(33, "what = 0 how many pairs of a KIND and m, 1 of these that with the least KIND, of these with the least m: "
        + "16 times the KIND, and m.");
    due("any", withThrees().whatIs(0, 0), 96);
    due("the least", withThrees().whatIs(0, 1), 0);
    due("not the least m", withThrees(132, 312, 1, 213, 231, 0).whatIs(0, 1), 4 * 16 + 1);
    CoarserOrders x = fresh(4);
    fill(x, 3, 2, 1423, 4123, 1, 1324, 3124, 0);
    due("1 4 is gone, 1 3 is not: longer 2, signed 2, 6, 10, 14, mixed 2", x.whatIs(3, 0), 6);
    due("the first of them, by the last sheet", x.whatIs(3, 1), 2 * 16 + 2);
    promise(33, "BAD: no such SHEET, what;");
    for (int sheet : new int[] {-1, 4, MIN, MAX}) {
      refused("sheet " + sheet, y -> y.whatIs(sheet, 0), BAD);
    }
    for (int what : new int[] {-1, 2, MIN, MAX}) {
      refused("what " + what, y -> y.whatIs(2, what), BAD);
      refused("what " + what + ", and of another sort", y -> y.whatIs(0, what), BAD);
      refused("what " + what + ", and missing", y -> y.whatIs(3, what), BAD);
    }
    promise(33, "-13; -11; NONE (what 1): none.");
    refused("bytes", y -> y.whatIs(0, 0), UNLIKE);
    refused("shorts", y -> y.whatIs(1, 1), UNLIKE);
    refused("longs", () -> withSheet(3), y -> y.whatIs(0, 0), UNLIKE);
    refused("missing", y -> y.whatIs(3, 0), NOTHING);
    refused("missing", y -> y.whatIs(3, 1), NOTHING);
    refused("none", () -> withThrees(321, 321, 0), y -> y.whatIs(0, 1), NONE);
    due("how many are none", withThrees(321, 321, 0).whatIs(0, 0), 0);
    due("how many, of a three that lacks something", withThrees(321).whatIs(0, 0), 0);
  }

  private static CoarserOrders withSheet(int sort) {
    CoarserOrders x = busy();
    x.sheet(0, sort, 3);
    return x;
  }
}
