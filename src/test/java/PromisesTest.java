/** Each promise by hand: an ordinary input, the edges that the document names, wrong inputs and the order of refusals. */
public final class PromisesTest {
  private static final int MIN = Integer.MIN_VALUE, MAX = Integer.MAX_VALUE;

  public static void main(String[] args) {
    constantsAndNewObject();
    sizes();
    rows();
    jumps();
    arcs();
    goneOnes();
    makers();
    tape();
    classes();
    allGone();
    walks();
    whatItIs();
    lots();
    stairs();
    altered();
    sheets();
    moves();
    shelves();
    traces();
    counts();
    kept();
    Check.end();
  }

  private static CoarserOrders fresh(int n) {
    CoarserOrders x = new CoarserOrders();
    x.size(n);
    return x;
  }

  private static void constantsAndNewObject() {
    Check.due("BAD", CoarserOrders.BAD, -1);
    Check.due("FULL", CoarserOrders.FULL, -2);
    Check.due("NONE", CoarserOrders.NONE, -3);
    Check.due("STATE", CoarserOrders.STATE, -4);
    CoarserOrders x = new CoarserOrders();
    int[] due = {4, 11, 0, 24, 36, 0, 0, 0, 0};
    for (int what = 0; what < due.length; what++) {
      Check.due("1: many " + what, x.many(what), due[what]);
    }
    Check.due("1: gone", x.gone(), 0);
    Check.due("1: again", x.again(), -3);
    Check.due("1: item", x.item(0, 0, 0), -11);
    Check.due("1: taken", x.taken(0, 0), -11);
    Check.due("1: step", x.step(0, 0), -9);
    Check.due("1: trace", x.trace(0), -3);
    Check.due("1: seed", x.seed(5), 1);
    Check.due("1: judge without steps", x.judge(1234), 0);
  }

  private static void sizes() {
    CoarserOrders x = new CoarserOrders();
    x.contract(10);
    Check.due("2: the same", x.size(4), 4);
    Check.due("2: still gone", x.gone(), 1912);
    Check.due("2: another", x.size(6), 4);
    Check.due("2: nothing gone", x.gone(), 0);
    x.contract(0);
    Check.due("2: low", x.size(0), -1);
    Check.due("2: high", x.size(7), -1);
    Check.due("2: least", x.size(MIN), -1);
    Check.due("2: greatest", x.size(MAX), -1);
    Check.due("2: refused changes nothing", x.many(2), 31);
    Check.due("2: to 1", x.size(1), 6);
    Check.due("2: rows of 1", x.many(3), 1);
    Check.due("2: from 1", x.size(2), 1);
    Check.due("2: 21", x.rowAt(1), 21);
    Check.due("2: 12 of 4", x.of(1234, 0), -1);
  }

  private static void rows() {
    CoarserOrders x = new CoarserOrders();
    Check.due("3", x.below(2134, 2143), 1);
    Check.due("3: itself", x.below(2143, 2143), 1);
    Check.due("3: not", x.below(2143, 2134), 0);
    Check.due("3: left", x.below(2135, 2134), -1);
    Check.due("3: right", x.below(2134, 12345), -1);
    Check.due("4", x.meet(4321, 3142), 3142);
    Check.due("4: none", x.meet(1244, 3142), -1);
    Check.due("4: none right", x.meet(3142, 0), -1);
    Check.due("5", x.join(1243, 1324), 1432);
    Check.due("5: none", x.join(MIN, 1324), -1);
    Check.due("5: none right", x.join(1324, MAX), -1);
    Check.due("6: swapped", x.of(4321, 0), 6);
    Check.due("6: drops", x.of(2143, 1), 5);
    Check.due("6: less", x.of(4321, 2), 23);
    Check.due("6: turned", x.of(1243, 3), 3421);
    Check.due("6: what", x.of(1243, 4), -1);
    Check.due("6: what low", x.of(1243, -1), -1);
    Check.due("6: zero", x.of(1230, 0), -1);
    Check.due("7", x.rowAt(1), 1243);
    Check.due("7: last", x.rowAt(23), 4321);
    Check.due("7: beyond", x.rowAt(24), -1);
    Check.due("7: low", x.rowAt(MIN), -1);
    Check.due("7: of six", fresh(6).rowAt(719), 654321);
  }

  private static void jumps() {
    CoarserOrders x = new CoarserOrders();
    Check.due("8: right", x.jump(4123, 4, 3), 1234);
    Check.due("8: left", x.jump(1234, 4, -3), 4123);
    Check.due("8: stays", x.jump(1234, 1, 0), 1234);
    Check.due("8: over a greater", x.jump(1324, 2, -1), -3);
    Check.due("8: over one greater of two", x.jump(3142, 2, -2), -3);
    Check.due("8: out", x.jump(1234, 4, 1), -3);
    Check.due("8: far out", x.jump(1234, 4, MIN), -3);
    Check.due("8: by N", x.jump(4123, 4, 4), -3);
    Check.due("8: no v", x.jump(1234, 0, MAX), -1);
    Check.due("8: v beyond", x.jump(1234, 5, 0), -1);
    Check.due("8: no row", x.jump(1233, 4, 9), -1);
  }

  private static void arcs() {
    CoarserOrders x = new CoarserOrders();
    Check.due("9: drop", x.arc(4231, 0), 9 - 1);
    Check.due("9: rise", x.arc(1234, 0), 0);
    Check.due("9: low", x.arc(1234, -1), -1);
    Check.due("9: beyond", x.arc(1234, 3), -1);
    Check.due("9: no row", x.arc(1, 0), -1);
    Check.due("10: a", x.arcIs(9, 0), 2);
    Check.due("10: b", x.arcIs(9, 1), 4);
    Check.due("10: left", x.arcIs(9, 2), 1);
    Check.due("10: not gone", x.arcIs(9, 3), 0);
    x.contract(9);
    Check.due("10: gone", x.arcIs(9, 3), 1);
    Check.due("10: forces", x.arcIs(9, 4), 3);
    Check.due("10: forced by", x.arcIs(9, 5), 3);
    Check.due("10: row", x.arcIs(9, 6), 1342);
    Check.due("10: what", x.arcIs(9, 7), -1);
    Check.due("10: what low", x.arcIs(9, -1), -1);
    Check.due("10: low", x.arcIs(-1, 0), -1);
    Check.due("10: beyond", x.arcIs(11, 0), -1);
    Check.due("11", x.forces(9, 5), 1);
    Check.due("11: the other way", x.forces(5, 9), 0);
    Check.due("11: itself", x.forces(5, 5), 1);
    Check.due("11: low", x.forces(-1, 0), -1);
    Check.due("11: beyond", x.forces(0, 11), -1);
    Check.due("12", x.diagram(2143), 1 | 1 << 10);
    Check.due("12: none", x.diagram(1234), 0);
    Check.due("12: no row", x.diagram(0), -1);
    Check.due("13", x.rowOf(1 | 1 << 10), 2143);
    Check.due("13: no row has both", x.rowOf(1 | 2), -3);
    Check.due("13: no arc", x.rowOf(1L << 11), -1);
    Check.due("13: the highest bit", x.rowOf(Long.MIN_VALUE), -1);
    Check.due("13: the last arc of six", fresh(6).rowOf(1L << 56), 123465);
    Check.due("13: beyond it", fresh(6).rowOf(1L << 57), -1);
    Check.due("13: of one", fresh(1).rowOf(0), 1);
    Check.due("13: of one, wrong", fresh(1).rowOf(1), -1);
  }

  private static void goneOnes() {
    CoarserOrders x = new CoarserOrders();
    Check.due("15", x.contract(9), 3);
    Check.due("14", x.gone(), 1 << 9 | 1 << 5 | 1 << 6);
    Check.due("15: again", x.contract(5), 3);
    Check.due("15: low", x.contract(-1), -1);
    Check.due("15: beyond", x.contract(11), -1);
    Check.due("16", x.restore(5), 1);
    Check.due("16: what is left", x.gone(), 1 << 6);
    Check.due("16: not gone", x.restore(0), 1);
    Check.due("16: low", x.restore(MIN), -1);
    Check.due("16: beyond", x.restore(11), -1);
    Check.due("23", x.clear(), 1);
    Check.due("23: none", x.clear(), 0);
    Check.due("17: the same row", x.collapse(3142, 3142), 0);
    Check.due("17", x.collapse(1324, 1342), 3);
    Check.due("17: alike", x.alike(1342, 0), 1324);
    Check.due("17: the other way", x.collapse(1342, 1324), 3);
    Check.due("17: no row", x.collapse(1342, 13), -1);
    Check.due("17: no row left", x.collapse(13, 1342), -1);
    Check.due("17: all", x.collapse(4321, 1234), 11);
  }

  private static void makers() {
    CoarserOrders x = new CoarserOrders();
    Check.due("18: kind", x.maker(6, 0), -1);
    Check.due("18: kind low", x.maker(-1, 0), -1);
    Check.due("18: m", x.maker(0, 16), -1);
    Check.due("18: m low", x.maker(0, -1), -1);
    for (int kind = 0; kind < 6; kind++) {
      Check.due("18", x.maker(kind, 15 - kind), kind);
    }
    Check.due("18: bad before full", x.maker(6, 0), -1);
    Check.due("18: full", x.maker(0, 0), -2);
    Check.due("19: kind", x.makerIs(4, 0), 4);
    Check.due("19: m", x.makerIs(4, 1), 11);
    Check.due("19: what", x.makerIs(4, 3), -1);
    Check.due("19: low", x.makerIs(-1, 0), -1);
    Check.due("19: beyond", x.makerIs(6, 0), -1);
    Check.due("20: plain", x.make(0, 0), 0);
    Check.due("20: lefty", x.make(1, 0), 5);
    Check.due("20: both of these", x.make(3, 2), 2);
    Check.due("20: more", x.make(1, 1), 5);
    Check.due("20: how", x.make(1, 3), -1);
    Check.due("20: how low", x.make(1, -1), -1);
    Check.due("20: maker", x.make(6, 0), -1);
    Check.due("20: refused changes nothing", x.many(2), 5);
    Check.due("20: mixed takes those longer than m, or more left", x.make(5, 0), 5);
    x.size(6);
    Check.due("19: takes by N", x.makerIs(1, 2), 57 - 15);
  }

  private static void tape() {
    CoarserOrders x = new CoarserOrders();
    Check.due("21: n 0", x.feed(0, 0), -1);
    Check.due("21: n 9", x.feed(0, 9), -1);
    for (int i = 1; i <= 24; i++) {
      Check.due("21", x.feed(0x2020202020202020L, 8), 8 * i);
    }
    Check.due("21: 199", x.feed(0x20202020202020L, 7), 199);
    Check.due("21: full", x.feed(0x2020L, 2), -2);
    Check.due("21: bad before full", x.feed(0, 9), -1);
    Check.due("21: 200", x.feed(' ', 1), 200);
    Check.due("21: full by 1", x.feed(' ', 1), -2);
    Check.due("22: how", x.text(3), -1);
    Check.due("22: how low", x.text(-1), -1);
    Check.due("22: the tape stays", x.many(7), 200);
    Check.due("22: only blanks", x.text(0), -300);
    Check.due("22: used up", x.many(7), 0);
    Check.due("22: nothing on it", x.text(0), -100);
    for (int i = 0; i < 25; i++) {
      x.feed(0x3C3C3C3C3C3C3C3CL, 8);
    }
    Check.due("22: as many words as can be", x.text(0), -100);
    Check.feed(x, "left>0");
    Check.due("22", x.text(0), 5);
    Check.feed(x, "left > 0 and right>0");
    Check.due("22: of those gone", x.text(2), 2);
    Check.feed(x, "low=3 or");
    Check.due("22: more must come", x.text(0), -108);
    Check.due("22: nothing changed", x.many(2), 2);
    Check.feed(x, "low=3");
    Check.due("22: with those gone", x.text(1), 7);
  }

  private static void classes() {
    CoarserOrders x = new CoarserOrders();
    x.contract(0);
    Check.due("24: least", x.alike(2143, 0), 1243);
    Check.due("24: greatest", x.alike(1243, 1), 2431);
    Check.due("24: many", x.alike(1243, 2), 4);
    Check.due("24: what", x.alike(1243, 3), -1);
    Check.due("24: no row", x.alike(1242, 0), -1);
    Check.due("25", x.classAt(1), 1243);
    Check.due("25: last", x.classAt(5), 1432);
    Check.due("25: beyond", x.classAt(6), -1);
    Check.due("25: low", x.classAt(MIN), -1);
    Check.due("26: under", x.classes(2431, 4321, 0), 1);
    Check.due("26: not", x.classes(4321, 2431, 0), 0);
    Check.due("26: meet", x.classes(2431, 4312, 1), 1243);
    Check.due("26: join", x.classes(1243, 1324, 2), 1432);
    Check.due("26: what", x.classes(1243, 1324, 3), -1);
    Check.due("26: no row", x.classes(1243, 1325, 2), -1);
    Check.due("27: under", x.rotations(4321, 0), 2);
    Check.due("27: over", x.rotations(2134, 1), 2);
    Check.due("27: way", x.rotations(2134, 2), -1);
    Check.due("27: no row", x.rotations(2, 0), -1);
    Check.due("28", x.rotate(1234, 1, 1), 1324);
    Check.due("28: none", x.rotate(1234, 2, 1), -3);
    Check.due("28: none at the top", x.rotate(4321, 0, 1), -3);
    Check.due("28: k", x.rotate(1234, -1, 1), -1);
    Check.due("28: way", x.rotate(1234, 9, -1), -1);
    Check.due("28: way above", x.rotate(1234, 0, 2), -1);
    Check.due("27: way below", x.rotations(1234, -1), -1);
    Check.due("28: no row", x.rotate(1, 0, 0), -1);
  }

  /** The longest ways down that there are: 15 swaps. */
  private static void allGone() {
    CoarserOrders x = fresh(6);
    Check.due("17: all of six", x.collapse(654321, 123456), 57);
    Check.due("24: least of all", x.alike(654321, 0), 123456);
    Check.due("24: greatest of all", x.alike(123456, 1), 654321);
    Check.due("24: all alike", x.alike(314256, 2), 720);
    Check.due("49: one class", x.many(3), 1);
    Check.due("49: none right under", x.many(4), 0);
    Check.due("27: none under", x.rotations(314256, 0), 0);
    Check.due("27: none over", x.rotations(314256, 1), 0);
    Check.due("25: it", x.classAt(0), 123456);
    Check.due("25: no other", x.classAt(1), -1);
    Check.due("36: as many steps as can be", x.prove(654321), 15);
    Check.due("37: the last row", x.step(14, 0), 123456);
    Check.due("37: no more", x.step(15, 0), -9);
    Check.due("39: right", x.judge(654321), 0);
    x.alterStep(14, 0, 123465);
    Check.due("39: the last is not", x.judge(654321), 15);
    CoarserOrders five = fresh(5);
    for (int arc = 0; arc < 26; arc++) {
      five.contract(arc);
    }
    Check.due("29: one class", five.apart(12345, 54321), 0);
    Check.due("30: no step", five.wayUp(1), 0);
    Check.due("31: the first", five.listed(0), 12345);
    Check.due("31: no other", five.listed(1), -3);
    Check.due("32: one with all that are gone", five.closed(1), 1);
  }

  private static void walks() {
    CoarserOrders x = new CoarserOrders();
    Check.due("29", x.apart(1234, 4321), 6);
    Check.due("29: both ways", x.apart(1243, 2134), 2);
    Check.due("29: none", x.apart(1243, 1243), 0);
    Check.due("29: no row", x.apart(1243, 1), -1);
    Check.due("30", x.wayUp(0), 6);
    Check.due("30: fewest", x.wayUp(1), 6);
    Check.due("30: what", x.wayUp(-1), -1);
    Check.due("31: last", x.listed(23), 2134);
    Check.due("31: none", x.listed(24), -3);
    Check.due("31: greatest", x.listed(MAX), -3);
    Check.due("31: low", x.listed(MIN), -1);
    Check.due("32", x.closed(1), 60);
    Check.due("32: what", x.closed(2), -1);
    x.contract(0);
    Check.due("31: of six", x.listed(5), 1324);
    Check.due("31: no more", x.listed(6), -3);
    Check.due("32: of six", x.closed(1), 7);
    Check.due("32: all", x.closed(0), 60);
    CoarserOrders six = fresh(6);
    Check.due("29: bad before state", six.apart(1243, 123456), -1);
    Check.due("29: state", six.apart(123456, 123456), -4);
    Check.due("30: bad before state", six.wayUp(2), -1);
    Check.due("30: state", six.wayUp(0), -4);
    Check.due("31: bad before state", six.listed(-1), -1);
    Check.due("31: state", six.listed(0), -4);
    Check.due("32: bad before state", six.closed(-1), -1);
    Check.due("32: state", six.closed(1), -4);
  }

  private static void threes(CoarserOrders x, int n, long... told) {
    x.sheet(0, 2, n);
    for (int i = 0; i < told.length; i++) {
      x.put(0, i, told[i]);
    }
  }

  private static void whatItIs() {
    CoarserOrders x = new CoarserOrders();
    threes(x, 3, 1234, 2134, 1);
    Check.due("33: simple swaps, by m 0 of longer and mixed alone", x.whatIs(0, 0), 2);
    Check.due("33: the least", x.whatIs(0, 1), 32);
    threes(x, 3, 1234, 2134, 0);
    Check.due("33: all others", x.whatIs(0, 0), 94);
    Check.due("33: plain", x.whatIs(0, 1), 0);
    threes(x, 4, 1234, 2134, 0);
    Check.due("33: a three lacks something", x.whatIs(0, 0), 0);
    Check.due("33: none", x.whatIs(0, 1), -3);
    threes(x, 3, 1234, 2135, 0);
    Check.due("33: no row", x.whatIs(0, 0), 0);
    threes(x, 3, 1234, 1234, 2);
    Check.due("33: another last number", x.whatIs(0, 0), 0);
    threes(x, 3, 1234, 1234, -1);
    Check.due("33: one below 0", x.whatIs(0, 0), 0);
    threes(x, 0);
    Check.due("33: no threes", x.whatIs(0, 0), 96);
    Check.due("33: what", x.whatIs(0, 2), -1);
    Check.due("33: what before what is missing", x.whatIs(1, -1), -1);
    Check.due("33: missing", x.whatIs(1, 0), -11);
    Check.due("33: no sheet", x.whatIs(-1, 0), -1);
    x.sheet(1, 3, 3);
    Check.due("33: longs", x.whatIs(1, 0), -13);
    x.contract(0);
    Check.due("33: what is gone is not asked", x.whatIs(0, 0), 96);
    Check.due("33: and stays", x.many(2), 7);
  }

  private static void lots() {
    CoarserOrders x = new CoarserOrders();
    Check.due("35: nothing gone", x.drawn(60), 60);
    Check.due("35: low", x.drawn(0), -1);
    Check.due("35: high", x.drawn(61), -1);
    int z = x.seed(1);
    x.drawn(60);
    Check.due("34: from the same seed", x.seed(MIN), z);
    Check.due("34: any number", x.seed(MAX), MIN);
    x.drawn(61);
    Check.due("35: refused draws nothing", x.seed(1), MAX);
    x.size(1);
    Check.due("35: of one", x.drawn(5), 5);
    Check.due("35: of one draws nothing", x.seed(1), 1);
    x.size(2);
    x.contract(0);
    x.drawn(1);
    Check.due("35: one step for two numbers", x.seed(1), 1103527590);
  }

  private static CoarserOrders withStairs() {
    CoarserOrders x = fresh(3);
    x.contract(0);
    Check.due("36", x.prove(321), 2);
    return x;
  }

  private static void stairs() {
    CoarserOrders x = withStairs();
    Check.due("37: first row", x.step(0, 0), 312);
    Check.due("37: first arc", x.step(0, 1), 0);
    Check.due("37: second row", x.step(1, 0), 132);
    Check.due("37: second arc", x.step(1, 1), 1);
    Check.due("37: beyond", x.step(2, 0), -9);
    Check.due("37: low", x.step(-1, 0), -9);
    Check.due("37: what", x.step(0, 2), -9);
    Check.due("37: what low", x.step(1, -1), -9);
    Check.due("39: right", x.judge(321), 0);
    Check.due("39: from another", x.judge(213), 1);
    Check.due("39: no row", x.judge(3211), -1);
    Check.due("36: no row", x.prove(0), -1);
    Check.due("36: refused keeps them", x.many(6), 2);
    x.restore(1);
    Check.due("39: not gone any more", x.judge(321), 1);
    x.contract(1);
    Check.due("39: only the second is", x.judge(321), 1);
    x.size(4);
    Check.due("39: rows of another size", x.judge(4321), 1);
    Check.due("37: they stay", x.step(1, 0), 132);
    Check.due("36: anew", x.prove(4321), 0);
  }

  private static void altered() {
    CoarserOrders x = withStairs();
    Check.due("38: row", x.alterStep(1, 0, 321), 132);
    Check.due("38: became", x.step(1, 0), 321);
    Check.due("39: a rise is no step down", x.judge(321), 2);
    Check.due("38: back", x.alterStep(1, 0, 132), 321);
    Check.due("38: arc", x.alterStep(1, 1, MIN), 1);
    Check.due("39: no arc", x.judge(321), 2);
    Check.due("38: arc above", x.alterStep(1, 1, 65), MIN);
    Check.due("39: no such arc", x.judge(321), 2);
    Check.due("38: beyond", x.alterStep(2, 0, 1), -9);
    Check.due("38: low", x.alterStep(-1, 0, 1), -9);
    Check.due("38: what", x.alterStep(0, 2, 1), -9);
    // THE READER asks for a DROP that is GONE, not for the one at the least place.
    x.contract(3);
    x.contract(2);
    x.prove(321);
    Check.due("36: the least place", x.step(0, 0), 231);
    x.alterStep(0, 0, 312);
    x.alterStep(0, 1, 0);
    x.alterStep(1, 0, 132);
    x.alterStep(1, 1, 1);
    x.alterStep(2, 0, 123);
    x.alterStep(2, 1, 3);
    Check.due("39: another way down", x.judge(321), 0);
  }

  private static void sheets() {
    CoarserOrders x = new CoarserOrders();
    long v = 0x123456789ABCDEF0L;
    long[] narrowed = {(byte) v, (short) v, (int) v, (int) v};
    for (int sort = 0; sort < 4; sort++) {
      Check.due("40", x.sheet(sort, sort, 40), 1);
      Check.due("41", x.put(sort, 39, v), 1);
      Check.due("42", x.item(sort, sort, 39), narrowed[sort]);
      Check.due("42: the others", x.item(sort, sort, 38), 0);
      Check.due("42: another sort", x.item(sort, (sort + 1) % 4, 39), -13);
      Check.due("42: another sort before a place outside", x.item(sort, (sort + 1) % 4, 40), -13);
      Check.due("42: outside", x.item(sort, sort, 40), -12);
      Check.due("42: below", x.item(sort, sort, MIN), -12);
    }
    Check.due("41: outside", x.put(0, 40, 1), -12);
    Check.due("41: below", x.put(0, -1, 1), -12);
    Check.due("41: no sheet", x.put(4, 0, 1), -1);
    Check.due("42: no sheet", x.item(-1, 0, 0), -1);
    Check.due("42: no sort", x.item(0, 4, 0), -1);
    Check.due("42: sort low", x.item(0, -1, 0), -1);
    Check.due("40: no sheet", x.sheet(4, 0, 1), -1);
    Check.due("40: sheet low", x.sheet(-1, 0, 1), -1);
    Check.due("40: sort", x.sheet(0, 4, 1), -1);
    Check.due("40: sort low", x.sheet(0, -2, -1), -1);
    Check.due("40: too many", x.sheet(0, 0, 41), -1);
    Check.due("40: below 0", x.sheet(0, 0, MIN), -14);
    Check.due("40: refused changes nothing", x.item(0, 0, 39), (byte) v);
    Check.due("40: anew", x.sheet(0, 0, 40), 1);
    Check.due("40: all 0", x.item(0, 0, 39), 0);
    Check.due("40: missing, whatever n", x.sheet(0, -1, 99), 1);
    Check.due("41: missing", x.put(0, 99, 1), -11);
    Check.due("42: missing", x.item(0, 3, 99), -11);
    Check.due("40: of none", x.sheet(0, 2, 0), 1);
    Check.due("42: of none", x.item(0, 2, 0), -12);
  }

  private static void moves() {
    CoarserOrders x = new CoarserOrders();
    x.sheet(0, 0, 6);
    x.sheet(1, 0, 3);
    x.sheet(2, 1, 3);
    for (int i = 0; i < 6; i++) {
      x.put(0, i, i + 1);
    }
    Check.due("43: to the right over itself", x.move(0, 0, 0, 1, 4), 4);
    Check.due("43: as they were", x.item(0, 0, 4), 4);
    Check.due("43: to the left over itself", x.move(0, 1, 0, 0, 5), 5);
    Check.due("43: as they were", x.item(0, 0, 3), 4);
    Check.due("43: to another", x.move(0, 2, 1, 1, 2), 2);
    Check.due("43: came", x.item(1, 0, 2), 4);
    Check.due("43: not ahead", x.item(1, 0, 0), 0);
    Check.due("43: a whole one", x.move(1, 0, 1, 0, 3), 3);
    Check.due("43: none at the ends", x.move(0, 6, 1, 3, 0), 0);
    Check.due("43: none beyond an end", x.move(0, 7, 1, 3, 0), -12);
    Check.due("43: beyond the other's", x.move(0, 0, 1, 2, 2), -12);
    Check.due("43: beyond its own", x.move(1, 2, 0, 0, 2), -12);
    Check.due("43: i", x.move(0, -1, 1, 0, 1), -12);
    Check.due("43: j", x.move(0, 0, 1, -1, 1), -12);
    Check.due("43: n", x.move(0, 0, 1, 0, -1), -12);
    Check.due("43: great i", x.move(0, MAX, 1, 0, 1), -12);
    Check.due("43: great n", x.move(0, 1, 1, 1, MAX), -12);
    Check.due("43: sorts before places", x.move(0, -1, 2, 0, 1), -13);
    Check.due("43: missing before sorts", x.move(2, 0, 3, 0, 1), -11);
    Check.due("43: missing first", x.move(3, 0, 2, 0, 1), -11);
    Check.due("43: no sheet before missing", x.move(3, 0, 4, 0, 1), -1);
    Check.due("43: no first sheet", x.move(-1, 0, 0, 0, 1), -1);
    Check.due("44", x.rowFrom(0, 1), -3);
    x.put(0, 5, 5);
    x.put(0, 4, 1);
    Check.due("44: a row", x.rowFrom(0, 1), 2341);
    Check.due("44: no row", x.rowFrom(0, 2), -3);
    Check.due("44: beyond", x.rowFrom(0, 3), -12);
    Check.due("44: great i", x.rowFrom(0, MAX), -12);
    Check.due("44: low", x.rowFrom(0, -1), -12);
    Check.due("44: shorts", x.rowFrom(2, -1), -13);
    Check.due("44: missing", x.rowFrom(3, -1), -11);
    Check.due("44: no sheet", x.rowFrom(4, 0), -1);
    x.put(0, 0, 0);
    x.put(0, 1, 12);
    Check.due("44: an item beyond 9", x.rowFrom(0, 0), -3);
    x.size(1);
    x.put(0, 5, 1);
    Check.due("44: of one", x.rowFrom(0, 5), 1);
    Check.due("44: of one, beyond", x.rowFrom(0, 6), -12);
  }

  private static void shelves() {
    CoarserOrders x = new CoarserOrders();
    x.keep();
    Check.due("45: no maker yet", x.shelf(0, 0, 0), -1);
    x.maker(3, 1);
    Check.due("45: a maker", x.shelf(0, 0, 0), 1);
    int[] due = {0, 0, -13, 0, -13, -13, -1, -1, -1, -1, -13, -13, -13, -13, -1};
    for (int as = 0; as < due.length; as++) {
      Check.due("46: both as " + as, x.taken(0, as), due[as]);
    }
    Check.due("46: as low", x.taken(0, -1), -1);
    Check.due("46: no shelf", x.taken(4, 0), -1);
    Check.due("46: shelf low", x.taken(-1, 0), -1);
    x.again();
    Check.due("46: the maker is no more", x.taken(0, 0), -11);
    Check.due("47: no act of it", x.act(0, 0, 1), 0);
    x.maker(2, 1);
    Check.due("46: another by its number", x.taken(0, 2), 0);
    Check.due("46: of another kind", x.taken(0, 1), -13);
    x.sheet(1, 2, 7);
    Check.due("45: a row", x.shelf(1, 1, 1), 1);
    Check.due("46: a row", x.taken(1, 12), 7);
    Check.due("46: of another sort", x.taken(1, 13), -13);
    Check.due("46: a row is no maker", x.taken(1, 0), -13);
    x.sheet(1, 0, 3);
    Check.due("46: the row that was put there", x.taken(1, 12), 7);
    Check.due("45: a missing one", x.shelf(1, 1, 2), 1);
    Check.due("46: is nothing", x.taken(1, 10), -11);
    Check.due("45: nothing", x.shelf(0, 2, -7), 1);
    Check.due("46: nothing", x.taken(0, 2), -11);
    Check.due("45: no shelf", x.shelf(-1, 2, 0), -1);
    Check.due("45: what", x.shelf(0, -1, 0), -1);
    Check.due("45: what above", x.shelf(0, 3, 0), -1);
    Check.due("45: no sheet", x.shelf(0, 1, 4), -1);
    Check.due("45: maker low", x.shelf(0, 0, -1), -1);
  }

  private static void traces() {
    CoarserOrders x = new CoarserOrders();
    x.maker(0, 0);
    x.maker(5, 0);
    x.shelf(0, 0, 0);
    x.shelf(1, 0, 1);
    Check.due("47: parts by 0", x.act(0, 2, 8), -15);
    Check.due("48: it began", x.trace(0), 12);
    Check.due("48: no more", x.trace(1), -3);
    Check.due("47: the least by -1", x.act(1, 2, MIN), (((MIN) / -1) + (1 * 5 + 1)) ^ 5);
    int[] due = {60, 31, 12, 10};
    for (int i = 0; i < due.length; i++) {
      Check.due("48: " + i, x.trace(i), due[i]);
    }
    Check.due("49: bodies", x.many(8), 4);
    Check.due("48: low", x.trace(MIN), -3);
    Check.due("48: beyond", x.trace(30), -3);
    Check.due("47: no act", x.act(0, 4, 1), 0);
    Check.due("47: no trace then", x.many(8), 0);
    x.act(0, 0, 1);
    Check.due("47: act low", x.act(0, -1, 1), 0);
    Check.due("47: no trace then", x.trace(0), -3);
    x.act(0, 0, 1);
    Check.due("47: no shelf", x.act(4, 0, 1) + x.many(8), 0);
    x.act(0, 0, 1);
    Check.due("47: nothing", x.act(2, 0, 1) + x.many(8), 0);
    x.sheet(0, 0, 1);
    x.shelf(2, 1, 0);
    x.act(0, 0, 1);
    Check.due("47: a row", x.act(2, 0, 1) + x.many(8), 0);
  }

  private static void counts() {
    int[] arcs = {0, 0, 1, 4, 11, 26, 57}, rows = {0, 1, 2, 6, 24, 120, 720};
    for (int n = 1; n <= 6; n++) {
      CoarserOrders x = fresh(n);
      Check.due("49: N", x.many(0), n);
      Check.due("49: arcs", x.many(1), arcs[n]);
      Check.due("49: classes", x.many(3), rows[n]);
      Check.due("49: right under", x.many(4), rows[n] * (n - 1) / 2);
      Check.due("49: what", x.many(9), -1);
      Check.due("49: what low", x.many(-1), -1);
    }
  }

  private static void kept() {
    CoarserOrders x = fresh(5);
    Check.due("51: nothing kept", x.again(), -3);
    x.contract(25);
    x.maker(1, 7);
    x.seed(9);
    Check.due("50", x.keep(), 1);
    x.size(3);
    x.contract(0);
    x.maker(2, 2);
    x.seed(11);
    x.prove(321);
    x.sheet(0, 0, 2);
    Check.feed(x, "low");
    Check.due("51", x.again(), 15);
    Check.due("51: N", x.many(0), 5);
    Check.due("51: makers", x.many(5), 1);
    Check.due("51: maker", x.makerIs(0, 1), 7);
    Check.due("51: z", x.seed(12), 9);
    Check.due("51: steps are not kept", x.many(6), 2);
    Check.due("51: nor the tape", x.many(7), 3);
    Check.due("51: nor sheets", x.item(0, 0, 1), 0);
    x.maker(3, 3);
    x.clear();
    Check.due("51: it stays", x.again(), 15);
    Check.due("51: with its makers", x.makerIs(1, 0), -1);
    Check.due("51: with its z", x.seed(0), 9);
    x.clear();
    x.keep();
    Check.due("50: the latest", x.again(), 0);
  }
}
