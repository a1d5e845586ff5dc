/** The edges that the document names of ROWS and ARCS: promises 1 to 13. */
public final class RowEdgesTest extends Edges {
  private static final int[] FIRST_ROWS = {0, 1, 12, 123, 1234, 12345, 123456};
  private static final int[] LAST_ROWS = {0, 1, 21, 321, 4321, 54321, 654321};
  private static final int[] ROW_COUNTS = {0, 1, 2, 6, 24, 120, 720};
  private static final int[] ARC_COUNTS = {0, 0, 1, 4, 11, 26, 57};

  public static void main(String[] args) {
    manyCalls();
    sizesOfRows();
    whatIsARow();
    orderOfRows();
    dropsAndRises();
    numbersOfArcs();
    forcing();
    newObject();
    size();
    belowMeetJoin();
    of();
    rowAt();
    jump();
    arc();
    arcIs();
    forces();
    diagram();
    rowOf();
    end(1, 13);
  }

  private static void manyCalls() {
    use("An object is used for at most 512 calls after it has been made");
    CoarserOrders x = new CoarserOrders();
    for (int i = 0; i < 255; i++) {
      x.size(i % 2 == 0 ? 6 : 5);
      x.collapse(654321, 123456);
    }
    due("call 511", x.many(2), 57);
    due("call 512", x.alike(321654, 2), 720);
  }

  private static void sizesOfRows() {
    term("N is 1 to 6 (4 at first).");
    due("at first", new CoarserOrders().many(0), 4);
    for (int n = 1; n <= 6; n++) {
      CoarserOrders x = fresh(n);
      due("N is " + n, x.many(0), n);
      due("the first", x.rowAt(0), FIRST_ROWS[n]);
      due("the last", x.rowAt(ROW_COUNTS[n] - 1), LAST_ROWS[n]);
    }
    refused("none", x -> x.size(0), BAD);
    refused("seven", x -> x.size(7), BAD);
  }

  private static void whatIsARow() {
    term("the numbers 1 to N, each once, in some order, told as a number by its N digits, from the left");
    for (int n = 1; n <= 6; n++) {
      CoarserOrders x = fresh(n);
      due("the least with a digit less", x.diagram(FIRST_ROWS[n] / 10), -1);
      due("the least with a digit more", x.diagram(FIRST_ROWS[n] * 10 + n + 1), -1);
      due("a 0 ahead of it", x.diagram(FIRST_ROWS[n] * 10), -1);
      due("the least below 0", x.diagram(-FIRST_ROWS[n]), -1);
      due("one below the least", x.diagram(FIRST_ROWS[n] - 1), -1);
      due("the least", x.diagram(FIRST_ROWS[n]), 0);
      due("one above the greatest", x.diagram(LAST_ROWS[n] + 1), -1);
      due("the last number one too great", x.diagram(FIRST_ROWS[n] + 1), -1);
      due("the greatest of ints", x.diagram(MAX), -1);
      due("the least of ints", x.diagram(MIN), -1);
    }
    for (int n = 1; n <= 4; n++) {
      int many = 0;
      CoarserOrders x = fresh(n);
      for (int row = 0; row < 5000; row++) {
        many += x.diagram(row) >= 0 ? 1 : 0;
      }
      due("how many numbers below 5000 are rows of " + n, many, ROW_COUNTS[n]);
    }
    CoarserOrders x = new CoarserOrders();
    due("one twice", x.of(1224, 0), -1);
    due("all the same", x.of(4444, 0), -1);
    due("a 0", x.of(1230, 0), -1);
    due("a 5", x.of(1235, 0), -1);
    due("a 9", x.of(9234, 0), -1);
    due("more digits, that wrap to it", x.of(1234 + 10000, 0), -1);
  }

  private static void orderOfRows() {
    term("Two numbers are SWAPPED in a ROW if the greater one stands left of the lesser one.");
    int[] most = {0, 0, 1, 3, 6, 10, 15};
    for (int n = 1; n <= 6; n++) {
      due("none in the first of " + n, fresh(n).of(FIRST_ROWS[n], 0), 0);
      due("all in the last of " + n, fresh(n).of(LAST_ROWS[n], 0), most[n]);
    }
    due("not beside one another", fresh(3).of(231, 0), 2);
    term("A ROW is BELOW another one (and itself), if all that are SWAPPED in it are in that one, too.");
    CoarserOrders x = fresh(3);
    for (int i = 0; i < 6; i++) {
      due("itself", x.below(x.rowAt(i), x.rowAt(i)), 1);
      due("the first", x.below(123, x.rowAt(i)), 1);
      due("the last", x.below(x.rowAt(i), 321), 1);
      due("not the last below", x.below(321, x.rowAt(i)), i == 5 ? 1 : 0);
    }
    due("less as a number, not below", x.below(132, 213), 0);
    due("one that lacks but one", x.below(231, 312), 0);
    term("MEET of two: the ROW that is BELOW both, and BELOW which are all that are BELOW both.");
    for (int i = 0; i < 6; i++) {
      int row = x.rowAt(i);
      due("with itself", x.meet(row, row), row);
      due("with the first", x.meet(row, 123), 123);
      due("with the last", x.meet(321, row), row);
    }
    due("neither of the two", x.meet(231, 312), 123);
    due("one of the two", x.meet(213, 231), 213);
    term("JOIN: that which both are BELOW, and which is BELOW all such.");
    for (int i = 0; i < 6; i++) {
      int row = x.rowAt(i);
      due("with itself", x.join(row, row), row);
      due("with the first", x.join(row, 123), row);
      due("with the last", x.join(321, row), 321);
    }
    due("neither of the two", x.join(132, 213), 321);
    due("one of the two", x.join(213, 231), 231);
  }

  private static void dropsAndRises() {
    term("A DROP is a place p (0 to N - 2), the number at which is greater than that at p + 1; a RISE, where it is less.");
    for (int n = 1; n <= 6; n++) {
      CoarserOrders x = fresh(n);
      due("only rises in the first of " + n, x.of(FIRST_ROWS[n], 1), 0);
      due("only drops in the last of " + n, x.of(LAST_ROWS[n], 1), (1 << (n - 1)) - 1);
    }
    due("at place 0", fresh(4).of(2134, 1), 1);
    due("at place N - 2", fresh(4).of(1243, 1), 4);
    term("An ARC is two numbers a < b, and of each number between them (in worth) whether it is LEFT or not.");
    CoarserOrders x = fresh(4);
    due("of neighbours there is one", x.arcIs(x.arc(1234, 1), 0) * 10 + x.arcIs(x.arc(1234, 1) + 1, 0), 22);
    due("the same two numbers with another left are another", x.arc(2314, 1) == x.arc(3124, 0) ? 1 : 0, 0);
    due("a drop and a rise of the same are the same", x.arc(2314, 1) == x.arc(2134, 1) ? 1 : 0, 1);
    due("4 is not between 1 and 3, wherever it stands", x.arc(4231, 2) == x.arc(2314, 1) ? 1 : 0, 1);
    term("The ARC of a DROP, of a RISE: a, b are its two numbers, the lesser first;");
    due("of the drop 31: 1 3 with none left", x.arc(3124, 0), 1);
    due("of the rise 13", x.arc(1324, 0), 1);
    term("LEFT are those between that stand left of both.");
    due("2 is left of 31", x.arc(2314, 1), 2);
    due("2 is right of 31", x.arc(3124, 0), 1);
    due("4 is left, and not between", x.arc(4312, 1), 1);
    due("1 is left, and not between", x.arc(1423, 1), 8);
    due("of neighbours none is between", x.arc(4132, 2), 7);
    due("2 and 3 are left of 41", x.arc(2341, 2), 6);
    due("2 is left, 3 is right of 41", x.arc(2413, 1), 4);
    due("3 is left, 2 is right of 14", x.arc(3142, 1), 5);
  }

  private static void numbersOfArcs() {
    term("ARCS are numbered from 0 on by a, then by b, then by LEFT as a number (bit 0: a + 1 is LEFT, bit 1: a + 2, ..).");
    for (int n = 1; n <= 6; n++) {
      CoarserOrders x = fresh(n);
      due("how many", x.many(1), ARC_COUNTS[n]);
      int arc = 0;
      for (int a = 1; a < n; a++) {
        for (int b = a + 1; b <= n; b++) {
          for (int left = 0; left < 1 << (b - a - 1); left++) {
            String which = "arc " + arc + " of " + n;
            due(which, x.arcIs(arc, 0) * 1000 + x.arcIs(arc, 1) * 100 + x.arcIs(arc, 2), a * 1000 + b * 100 + left);
            arc++;
          }
        }
      }
      due("none behind them", x.arcIs(arc, 0), -1);
    }
    due("bit 0: 2 is left of 51", fresh(5).arcIs(fresh(5).arc(25134, 1), 2), 1);
    due("bits 0 and 2: 2 and 4 are left of 51", fresh(5).arcIs(fresh(5).arc(24513, 2), 2), 5);
    due("bit 2: 4 is left of 51", fresh(5).arcIs(fresh(5).arc(45123, 1), 2), 4);
  }

  private static void forcing() {
    term("An ARC FORCES another one, of c and d, and itself, if c is not above a, d not below b,");
    CoarserOrders x = fresh(4);
    due("itself", x.forces(4, 4), 1);
    due("the same a, d above b", x.forces(0, 3), 1);
    due("the same b, c below a", x.forces(10, 8), 1);
    due("c above a", x.forces(0, 7), 0);
    due("d below b", x.forces(8, 7), 0);
    due("d below b, the same a", x.forces(3, 1), 0);
    term("and of each number between a and b both ARCS tell the same");
    due("2 is not left in both", x.forces(1, 5), 1);
    due("2 is left in one", x.forces(1, 4), 0);
    due("2 is left in both", x.forces(2, 6), 1);
    due("the same a and b, another left", x.forces(3, 4), 0);
    due("3 is left in both, c below a", x.forces(9, 5), 1);
    due("3 is left in one, c below a", x.forces(9, 4), 0);
    due("none is between neighbours", x.forces(7, 6), 1);
    term("GONE is a set of ARCS (none at first) with each of which all are in it that it FORCES.");
    due("none at first", new CoarserOrders().gone(), 0);
    x.contract(0);
    due("with 1 2 all of 1 .. 4", x.gone(), 127);
    x.restore(3);
    due("without the last that 1 2 forces", x.gone(), 4 + 16 + 32 + 64);
  }

  private static void newObject() {
    promise(1, "N is 4, nothing is GONE, no MAKERS; nothing is kept.");
    CoarserOrders x = new CoarserOrders();
    due("N", x.many(0), 4);
    due("nothing is gone", x.gone() + x.many(2), 0);
    due("no makers", x.many(5), 0);
    due("no maker 0", x.makerIs(0, 0), -1);
    due("nothing is kept", x.again(), -3);
    due("constants", CoarserOrders.BAD, -1);
    due("constants", CoarserOrders.FULL, -2);
    due("constants", CoarserOrders.NONE, -3);
    due("constants", CoarserOrders.STATE, -4);
  }

  private static void size() {
    promise(2, "N becomes v; if that is another one, nothing is GONE then: what it was.");
    for (int n = 1; n <= 6; n++) {
      for (int v = 1; v <= 6; v++) {
        CoarserOrders x = fresh(n);
        x.contract(0);
        int many = x.many(2);
        due("from " + n + " to " + v, x.size(v), n);
        due("gone then", x.many(2), v == n ? many : 0);
        due("it is", x.many(0), v);
      }
    }
    CoarserOrders x = fresh(5);
    x.contract(25);
    x.size(6);
    x.size(5);
    due("there and back, nothing is gone", x.gone(), 0);
    promise(2, "BAD.");
    refused("size(0)", y -> y.size(0), BAD);
    refused("size(7)", y -> y.size(7), BAD);
    refused("size(-4)", y -> y.size(-4), BAD);
    refused("size(MIN)", y -> y.size(MIN), BAD);
    refused("size(MAX)", y -> y.size(MAX), BAD);
  }

  private static void belowMeetJoin() {
    int[] noRows = {0, 123, 12345, 1233, 1235, -1234, MIN, MAX};
    promise(3, "1, if a ROW is BELOW another one, else 0.");
    due("of one number", fresh(1).below(1, 1), 1);
    due("below", fresh(2).below(12, 21), 1);
    due("above", fresh(2).below(21, 12), 0);
    promise(3, "BAD.");
    for (int row : noRows) {
      refused("below(" + row + ", 1234)", x -> x.below(row, 1234), BAD);
      refused("below(1234, " + row + ")", x -> x.below(1234, row), BAD);
    }
    promise(4, "MEET. BAD.");
    due("of one number", fresh(1).meet(1, 1), 1);
    due("of six", fresh(6).meet(654321, 132465), 132465);
    for (int row : noRows) {
      refused("meet(" + row + ", 1234)", x -> x.meet(row, 1234), BAD);
      refused("meet(4321, " + row + ")", x -> x.meet(4321, row), BAD);
    }
    promise(5, "JOIN. BAD.");
    due("of one number", fresh(1).join(1, 1), 1);
    due("of six", fresh(6).join(123456, 132465), 132465);
    for (int row : noRows) {
      refused("join(" + row + ", 1234)", x -> x.join(row, 1234), BAD);
      refused("join(4321, " + row + ")", x -> x.join(4321, row), BAD);
    }
  }

  private static void of() {
    promise(6, "what = 0 how many are SWAPPED, 1 DROPS, as a set of places, 2 how many ROWS are less as numbers, "
        + "3 the ROW read from the right");
    int[] ofOne = {0, 0, 0, 1};
    int[] ofSix = {15, 31, 719, 123456};
    for (int what = 0; what < 4; what++) {
      due("of one number, " + what, fresh(1).of(1, what), ofOne[what]);
      due("of the last of six, " + what, fresh(6).of(654321, what), ofSix[what]);
    }
    due("none is less", fresh(6).of(123456, 2), 0);
    promise(6, "BAD.");
    refused("what -1", x -> x.of(1234, -1), BAD);
    refused("what 4", x -> x.of(1234, 4), BAD);
    refused("what MIN", x -> x.of(1234, MIN), BAD);
    refused("what MAX", x -> x.of(1234, MAX), BAD);
    refused("no row", x -> x.of(1244, 2), BAD);
    refused("the row of another N", x -> x.of(123, 2), BAD);
  }

  private static void rowAt() {
    promise(7, "The ROW as which i ROWS are less as numbers. BAD: there is none.");
    for (int n = 1; n <= 6; n++) {
      int all = ROW_COUNTS[n], size = n;
      due("the first", fresh(n).rowAt(0), FIRST_ROWS[n]);
      due("the last", fresh(n).rowAt(all - 1), LAST_ROWS[n]);
      refused("as many as there are", () -> busy(size), x -> x.rowAt(all), BAD);
    }
    refused("-1", x -> x.rowAt(-1), BAD);
    refused("MIN", x -> x.rowAt(MIN), BAD);
    refused("MAX", x -> x.rowAt(MAX), BAD);
  }

  private static void jump() {
    term("it goes d places to the right (to the left, if d is below 0); those that it passes go one place the other way");
    CoarserOrders x = fresh(6);
    due("all the way to the right", x.jump(612345, 6, 5), 123456);
    due("all the way to the left", x.jump(123456, 6, -5), 612345);
    due("some of the way", x.jump(142356, 4, 2), 123456);
    due("by none, over none", x.jump(123456, 1, 0), 123456);
    due("by none, the greatest", x.jump(612345, 6, 0), 612345);
    term("It may be only if each that it passes is less than v.");
    due("all are less", x.jump(132456, 3, -1), 312456);
    due("the last is greater", x.jump(412356, 2, -2), -3);
    due("the first is greater", x.jump(124356, 2, 1), -3);
    due("the greater one stays behind it", x.jump(421356, 2, 1), 412356);
    promise(8, "The ROW as it is behind the JUMP of v by d places.");
    due("of one number", fresh(1).jump(1, 1, 0), 1);
    due("of two", fresh(2).jump(12, 2, -1), 21);
    promise(8, "BAD: no ROW, v;");
    refused("no row", y -> y.jump(1233, 3, 0), BAD);
    refused("a row of another N", y -> y.jump(123, 3, -1), BAD);
    refused("v is 0", y -> y.jump(1234, 0, 0), BAD);
    refused("v is N + 1", y -> y.jump(1234, 5, 0), BAD);
    refused("v is MIN", y -> y.jump(1234, MIN, 0), BAD);
    refused("v is MAX", y -> y.jump(1234, MAX, 0), BAD);
    refused("no v, and it may not be", y -> y.jump(1234, 5, 9), BAD);
    refused("no row, and it may not be", y -> y.jump(4444, 4, MIN), BAD);
    promise(8, "NONE: it may not be.");
    refused("over a greater one", y -> y.jump(1324, 2, -1), NONE);
    refused("beyond the right end", y -> y.jump(1234, 4, 1), NONE);
    refused("beyond the left end", y -> y.jump(4123, 4, -1), NONE);
    refused("by N", y -> y.jump(4123, 4, 4), NONE);
    refused("by -N", y -> y.jump(1234, 4, -4), NONE);
    refused("by MIN", y -> y.jump(1234, 4, MIN), NONE);
    refused("by MAX", y -> y.jump(4123, 4, MAX), NONE);
    refused("by what wraps to it", y -> y.jump(4123, 4, MIN + 1), NONE);
    refused("1 passes none", y -> y.jump(2134, 1, -1), NONE);
    refused("of one number", () -> busy(1), y -> y.jump(1, 1, 1), NONE);
    refused("of one number, to the left", () -> busy(1), y -> y.jump(1, 1, -1), NONE);
  }

  private static void arc() {
    promise(9, "The number of the ARC of the DROP, or RISE, at place p. BAD.");
    due("a drop at place 0", fresh(4).arc(4231, 0), 8);
    due("a rise at place N - 2", fresh(4).arc(2134, 2), 10);
    due("the last arc of six", fresh(6).arc(123456, 4), 56);
    refused("place -1", x -> x.arc(1234, -1), BAD);
    refused("place N - 1", x -> x.arc(1234, 3), BAD);
    refused("place MIN", x -> x.arc(1234, MIN), BAD);
    refused("place MAX", x -> x.arc(1234, MAX), BAD);
    refused("no row", x -> x.arc(1231, 0), BAD);
    refused("one number has no place for it", () -> busy(1), x -> x.arc(1, 0), BAD);
  }

  private static void arcIs() {
    promise(10, "what = 0 a, 1 b, 2 LEFT as a number, 3 1 if it is GONE, else 0,");
    due("a of the last of six", fresh(6).arcIs(56, 0), 5);
    due("b of the last of six", fresh(6).arcIs(56, 1), 6);
    due("left of the longest", fresh(6).arcIs(30, 2), 15);
    due("left of the longest with none", fresh(6).arcIs(15, 2), 0);
    CoarserOrders x = fresh(6);
    due("not gone", x.arcIs(56, 3), 0);
    x.contract(56);
    due("gone", x.arcIs(56, 3), 1);
    due("another is not", x.arcIs(0, 3), 0);
    due("one that it forces is", x.arcIs(15, 3), 1);
    promise(10, "4 how many it FORCES, 5 how many FORCE it,");
    due("itself alone", x.arcIs(15, 4), 1);
    due("it alone forces it", x.arcIs(56, 5), 1);
    due("of two, the only one", fresh(2).arcIs(0, 4) + fresh(2).arcIs(0, 5), 2);
    due("1 2 forces all of 1 ..", x.arcIs(0, 4), 31);
    due("the longest is forced by those of each two", x.arcIs(15, 5), 15);
    promise(10, "6 the ROW that has a DROP of it and is BELOW all ROWS that have one");
    due("of 1 2", x.arcIs(0, 6), 213456);
    due("of 5 6", x.arcIs(56, 6), 123465);
    due("of 1 6, none left", x.arcIs(15, 6), 612345);
    due("of 1 6, all left", x.arcIs(30, 6), 234561);
    due("of two", fresh(2).arcIs(0, 6), 21);
    promise(10, "BAD.");
    refused("what -1", y -> y.arcIs(0, -1), BAD);
    refused("what 7", y -> y.arcIs(0, 7), BAD);
    refused("what MIN", y -> y.arcIs(0, MIN), BAD);
    refused("what MAX", y -> y.arcIs(0, MAX), BAD);
    for (int n = 1; n <= 6; n++) {
      int size = n;
      refused("as many as there are of " + n, () -> busy(size), y -> y.arcIs(ARC_COUNTS[size], 3), BAD);
    }
    refused("arc -1", y -> y.arcIs(-1, 0), BAD);
    refused("arc 64, as if 0", y -> y.arcIs(64, 3), BAD);
    refused("arc MIN", y -> y.arcIs(MIN, 0), BAD);
    refused("arc MAX", y -> y.arcIs(MAX, 0), BAD);
  }

  private static void forces() {
    promise(11, "1, if an ARC FORCES another one, else 0. BAD.");
    due("the last of six itself", fresh(6).forces(56, 56), 1);
    due("it forces the first of 1 6", fresh(6).forces(56, 15), 1);
    due("not 1 2", fresh(6).forces(56, 0), 0);
    refused("-1", x -> x.forces(-1, 0), BAD);
    refused("-1 as the other", x -> x.forces(0, -1), BAD);
    refused("11 of 4", x -> x.forces(11, 0), BAD);
    refused("11 of 4 as the other", x -> x.forces(0, 11), BAD);
    refused("64 as the other", x -> x.forces(0, 64), BAD);
    refused("57 of 6", () -> busy(6), x -> x.forces(57, 0), BAD);
    refused("57 of 6 as the other", () -> busy(6), x -> x.forces(0, 57), BAD);
    refused("none of 1", () -> busy(1), x -> x.forces(0, 0), BAD);
    refused("MIN, MAX", x -> x.forces(MIN, MAX), BAD);
  }

  private static void diagram() {
    promise(12, "ARCS of all DROPS of a ROW, as a set. BAD.");
    for (int n = 1; n <= 6; n++) {
      due("none", fresh(n).diagram(FIRST_ROWS[n]), 0);
    }
    due("the last arc of six", fresh(6).diagram(123465), 1L << 56);
    due("all of neighbours", fresh(4).diagram(4321), 1 | 1 << 7 | 1 << 10);
    due("of two", fresh(2).diagram(21), 1);
    refused("no row", x -> x.diagram(1), BAD);
    refused("0", x -> x.diagram(0), BAD);
    refused("below 0", x -> x.diagram(-4321), BAD);
    refused("of another N", () -> busy(5), x -> x.diagram(4321), BAD);
  }

  private static void rowOf() {
    promise(13, "The ROW of which a set of ARCS is the ARCS of all DROPS.");
    for (int n = 1; n <= 6; n++) {
      due("none", fresh(n).rowOf(0), FIRST_ROWS[n]);
    }
    due("the last arc of six", fresh(6).rowOf(1L << 56), 123465);
    due("all of neighbours", fresh(4).rowOf(1 | 1 << 7 | 1 << 10), 4321);
    promise(13, "BAD: bits of no ARCS; NONE.");
    for (int n = 1; n <= 6; n++) {
      int size = n;
      refused("one bit beyond those of " + n, () -> busy(size), x -> x.rowOf(1L << ARC_COUNTS[size]), BAD);
      refused("all bits of " + n, () -> busy(size), x -> x.rowOf(-1L), BAD);
    }
    refused("the highest bit", x -> x.rowOf(Long.MIN_VALUE), BAD);
    refused("bit 32, which an int does not hold", x -> x.rowOf(1L << 32), BAD);
    refused("an arc that no row has with another", x -> x.rowOf(1 | 2), NONE);
    refused("bits of no arcs among those that no row has", x -> x.rowOf(1 | 2 | 1L << 40), BAD);
    refused("all arcs of 4", x -> x.rowOf(2047), NONE);
    refused("all arcs of 6", () -> busy(6), x -> x.rowOf((1L << 57) - 1), NONE);
  }
}
