import java.util.function.Supplier;

/** The edges that the document names of what is GONE, of MAKERS and THE TAPE: promises 14 to 23. */
public final class GoneEdgesTest extends Edges {
  private static final int PLAIN = 0, LEFTY = 1, LONGER = 2, BOTH = 3, SIGNED = 4, MIXED = 5;
  private static final int[] ARC_COUNTS = {0, 0, 1, 4, 11, 26, 57};

  public static void main(String[] args) {
    gone();
    contract();
    restore();
    collapse();
    makersAsTheyCome();
    maker();
    takes();
    makerIs();
    how();
    make();
    tape();
    feed();
    conditions();
    facts();
    words();
    open();
    faults();
    text();
    clear();
    end(14, 23);
  }

  private static void gone() {
    promise(14, "GONE, as a set.");
    CoarserOrders x = fresh(6);
    due("nothing", x.gone(), 0);
    x.contract(15);
    due("one", x.gone(), 1 << 15);
    for (int arc = 0; arc < 57; arc++) {
      x.contract(arc);
    }
    due("all", x.gone(), (1L << 57) - 1);
    due("of one number", fresh(1).gone(), 0);
  }

  private static void contract() {
    promise(15, "An ARC, and all that it FORCES, are GONE: how many are then.");
    for (int n = 2; n <= 6; n++) {
      CoarserOrders x = fresh(n);
      due("the first arc", x.contract(0), (1 << (n - 1)) - 1);
      due("it again", x.contract(0), (1 << (n - 1)) - 1);
    }
    CoarserOrders x = fresh(4);
    due("one that forces none other", x.contract(3), 1);
    due("those gone stay", x.contract(6), 2);
    due("some that it forces are gone already", x.contract(0), 7);
    promise(15, "BAD.");
    refusedArcs("contract", CoarserOrders::contract);
  }

  private interface OfArc {
    long asked(CoarserOrders x, int arc);
  }

  private static void refusedArcs(String call, OfArc asks) {
    for (int n = 1; n <= 6; n++) {
      int size = n;
      refused(call + " as many as there are of " + n, () -> busy(size), x -> asks.asked(x, ARC_COUNTS[size]), BAD);
    }
    for (int arc : new int[] {-1, 32, 63, 64, MIN, MAX}) {
      refused(call + " " + arc, x -> asks.asked(x, arc), BAD);
    }
  }

  private static void restore() {
    promise(16, "An ARC, and all that FORCE it, are GONE no more: how many are then.");
    CoarserOrders x = fresh(4);
    due("none was gone", x.restore(0), 0);
    x.contract(0);
    due("one that none other forces: 1 2", x.restore(0), 6);
    due("not gone any more", x.restore(0), 6);
    due("1 4 with none left, and 1 3 that forces it", x.restore(3), 4);
    due("which ones", x.gone(), 1 << 2 | 1 << 4 | 1 << 5 | 1 << 6);
    CoarserOrders six = fresh(6);
    six.collapse(123456, 654321);
    due("the longest: all that force it", six.restore(15), 57 - 15);
    promise(16, "BAD.");
    refusedArcs("restore", CoarserOrders::restore);
  }

  private static void collapse() {
    promise(17, "As few ARCS more as can be are GONE, that two ROWS are ALIKE: how many are then.");
    CoarserOrders x = fresh(4);
    due("a row with itself", x.collapse(2143, 2143), 0);
    due("beside one another", x.collapse(1234, 1243), 7);
    due("it is 3 4, and what it forces", x.gone(), 1912);
    due("alike already", x.collapse(1234, 1243), 7);
    due("alike already, others", x.collapse(1324, 1342), 7);
    due("all between are alike already", x.collapse(4123, 1234), 7);
    due("those gone stay", x.collapse(2134, 1234), 10);
    x.clear();
    due("none below the other: 1 2, and 3 4", x.collapse(1243, 2134), 10);
    due("not 2 3", x.arcIs(7, 3), 0);
    due("the first and the last", x.collapse(1234, 4321), 11);
    due("nothing to come", x.collapse(3142, 2413), 11);
    due("of one number", fresh(1).collapse(1, 1), 0);
    due("of two", fresh(2).collapse(21, 12), 1);
    promise(17, "BAD.");
    for (int row : new int[] {0, 123, 12345, 1134, MIN, MAX}) {
      refused("the first is no row: " + row, y -> y.collapse(row, 4321), BAD);
      refused("the other is no row: " + row, y -> y.collapse(1234, row), BAD);
    }
  }

  private static void makersAsTheyCome() {
    term("MAKERS, 6 at most, numbered as they come: a KIND, m (0 to 15).");
    CoarserOrders x = new CoarserOrders();
    for (int i = 0; i < 6; i++) {
      due("maker " + i, x.maker(5 - i, 3 * i), i);
      due("many", x.many(5), i + 1);
    }
    for (int i = 0; i < 6; i++) {
      due("its kind", x.makerIs(i, 0), 5 - i);
      due("its m", x.makerIs(i, 1), 3 * i);
    }
    x.size(5);
    due("they stay when N changes", x.many(5), 6);
  }

  private static CoarserOrders withSixMakers() {
    CoarserOrders x = busy();
    while (x.many(5) < 6) {
      x.maker(1, 15);
    }
    return x;
  }

  private static void maker() {
    promise(18, "A MAKER: its number.");
    CoarserOrders x = new CoarserOrders();
    due("the least kind and m", x.maker(0, 0), 0);
    due("the greatest kind and m", x.maker(5, 15), 1);
    due("two alike are two", x.maker(5, 15), 2);
    promise(18, "BAD; FULL.");
    int[][] wrong = {{-1, 0}, {6, 0}, {MIN, 0}, {MAX, 0}, {0, -1}, {0, 16}, {0, MIN}, {0, MAX}};
    for (int[] w : wrong) {
      refused("maker(" + w[0] + ", " + w[1] + ")", y -> y.maker(w[0], w[1]), BAD);
      refused("the same, with six", GoneEdgesTest::withSixMakers, y -> y.maker(w[0], w[1]), BAD);
    }
    refused("the seventh", GoneEdgesTest::withSixMakers, y -> y.maker(0, 0), FULL);
  }

  private static void due(int n, int kind, int m, long... arcs) {
    CoarserOrders x = fresh(n);
    x.maker(kind, m);
    due("how many of " + n + ", m " + m, x.makerIs(0, 2), arcs.length);
    long set = 0;
    for (long arc : arcs) {
      for (int other = 0; other < ARC_COUNTS[n]; other++) {
        set |= (long) x.forces((int) arc, other) << other;
      }
    }
    x.make(0, 0);
    due("gone by it of " + n + ", m " + m, x.gone(), set);
  }

  /** 1 4 with none, 2, 3, both LEFT are ARCS 3 to 6; 1 3 are 1, 2; 2 4 are 8, 9; neighbours 0, 7, 10. */
  private static void takes() {
    term("KINDS: 0 plain; 1 lefty, 2 longer (under plain); 3 both, 4 signed (under lefty); 5 mixed (under longer).");
    int[] many = {0, 5, 8, 2, 5, 8};
    for (int kind = 0; kind < 6; kind++) {
      CoarserOrders of = fresh(4);
      of.maker(kind, 1);
      due("kind " + kind + ", m 1", of.makerIs(0, 2), many[kind]);
    }
    term("TAKES (an ARC a, b; l: how many are LEFT, r: how many between are not): plain: no.");
    due(4, PLAIN, 0);
    due(6, PLAIN, 15);
    term("lefty: if l is above 0.");
    due(4, LEFTY, 0, 2, 4, 5, 6, 9);
    due(4, LEFTY, 15, 2, 4, 5, 6, 9);
    due(2, LEFTY, 0);
    due(1, LEFTY, 0);
    term("longer: if b - a is above m.");
    due(4, LONGER, 0, 0, 1, 2, 3, 4, 5, 6, 7, 8, 9, 10);
    due(4, LONGER, 1, 1, 2, 3, 4, 5, 6, 8, 9);
    due(4, LONGER, 2, 3, 4, 5, 6);
    due(4, LONGER, 3);
    due(4, LONGER, 15);
    due(1, LONGER, 0);
    term("both: as lefty, and r is above 0 (else no).");
    due(4, BOTH, 0, 4, 5);
    due(3, BOTH, 15);
    term("signed: if of any number c between: it is LEFT, and bit c - 2 of m is 0, or it isn't, and that bit is 1.");
    due(4, SIGNED, 0, 2, 4, 5, 6, 9);
    due(4, SIGNED, 1, 1, 3, 5, 6, 9);
    due(4, SIGNED, 2, 2, 3, 4, 6, 8);
    due(4, SIGNED, 3, 1, 3, 4, 5, 8);
    due(4, SIGNED, 12, 2, 4, 5, 6, 9);
    due(4, SIGNED, 15, 1, 3, 4, 5, 8);
    due(2, SIGNED, 15);
    CoarserOrders x = fresh(6);
    x.maker(SIGNED, 8);
    x.make(0, 0);
    due("4 6 with 5 not left: bit 3 is 1", x.arcIs(54, 3), 1);
    due("4 6 with 5 left: bit 3 is 1", x.arcIs(55, 3), 0);
    due("those are the arcs told", x.arcIs(54, 0) * 100 + x.arcIs(54, 1) * 10 + x.arcIs(54, 2), 460);
    term("mixed: as longer, or if l is above r.");
    due(4, MIXED, 15, 2, 6, 9);
    due(4, MIXED, 3, 2, 6, 9);
    due(4, MIXED, 2, 2, 3, 4, 5, 6, 9);
    due(4, MIXED, 0, 0, 1, 2, 3, 4, 5, 6, 7, 8, 9, 10);
    due(2, MIXED, 1);
  }

  private static void makerIs() {
    promise(19, "what = 0 KIND, 1 m, 2 how many ARCS it TAKES (what they FORCE not).");
    CoarserOrders x = fresh(4);
    x.maker(0, 0);
    x.maker(5, 15);
    x.maker(5, 8);
    due("the least kind", x.makerIs(0, 0), 0);
    due("the greatest kind", x.makerIs(1, 0), 5);
    due("the least m", x.makerIs(0, 1), 0);
    due("the greatest m", x.makerIs(1, 1), 15);
    due("it takes three", x.makerIs(2, 2), 3);
    due("and five are gone", x.make(2, 0), 5);
    x.size(1);
    due("of one number it takes none", x.makerIs(2, 2), 0);
    promise(19, "BAD.");
    for (int maker : new int[] {-1, 4, 5, 6, MIN, MAX}) {
      refused("maker " + maker + " of four", y -> y.makerIs(maker, 0), BAD);
    }
    for (int what : new int[] {-1, 3, MIN, MAX}) {
      refused("what " + what, y -> y.makerIs(0, what), BAD);
    }
    refused("there is none yet", CoarserOrders::new, y -> y.makerIs(0, 0), BAD);
  }

  private static void how() {
    term("HOW ARCS come that are TAKEN (by a MAKER, or those for which the TEXT holds), with all that they FORCE: "
        + "0 they are GONE, and no others;");
    CoarserOrders x = fresh(4);
    x.maker(LEFTY, 0);
    x.maker(PLAIN, 0);
    x.contract(8);
    due("no others", x.make(0, 0), 5);
    due("8 is gone no more", x.arcIs(8, 3), 0);
    due("none at all", x.make(1, 0), 0);
    Check.feed(x, "low=3");
    due("with all that they force", x.text(0), 7);
    term("1 those GONE already, too;");
    due("five, of which four are gone already", x.make(0, 1), 8);
    due("none more", x.make(1, 1), 8);
    due("again none more", x.make(0, 1), 8);
    Check.feed(x, "low=1 and high=2");
    due("by a text", x.text(1), 10);
    term("2 just those that would be, and are GONE already.");
    due("lefty ones of ten", x.make(0, 2), 5);
    due("again", x.make(0, 2), 5);
    Check.feed(x, "high=4");
    due("by a text", x.text(2), 4);
    due("none", x.make(1, 2), 0);
    due("of none none", x.make(0, 2), 0);
    x.contract(3);
    Check.feed(x, "low=1 and high=2");
    due("one that the taken ones force", x.text(2), 1);
  }

  private static void make() {
    promise(20, "ARCS come that a MAKER TAKES, HOW (0, 1, 2): how many are GONE then.");
    CoarserOrders x = fresh(1);
    x.maker(LONGER, 0);
    for (int how = 0; how <= 2; how++) {
      due("of one number", x.make(0, how), 0);
    }
    x.size(6);
    due("all of six", x.make(0, 0), 57);
    promise(20, "BAD.");
    for (int maker : new int[] {-1, 4, 6, MIN, MAX}) {
      refused("maker " + maker + " of four", y -> y.make(maker, 0), BAD);
    }
    for (int how : new int[] {-1, 3, MIN, MAX}) {
      refused("how " + how, y -> y.make(0, how), BAD);
    }
    refused("there is none yet", CoarserOrders::new, y -> y.make(0, 0), BAD);
  }

  private static final long BLANKS = 0x2020202020202020L;

  /** A busy object the tape of which has so many bytes: a right text, and blanks. */
  private static CoarserOrders withTape(int bytes) {
    CoarserOrders x = busy();
    while (x.many(7) < bytes) {
      x.feed(BLANKS, Math.min(8, bytes - x.many(7)));
    }
    return x;
  }

  private static void tape() {
    term("THE TAPE takes bytes, 200 at most; text() uses it up.");
    due("as many as it takes", withTape(200).many(7), 200);
    due("read to the end", withTape(200).text(0), 9);
    CoarserOrders x = withTape(200);
    x.text(0);
    due("used up", x.many(7), 0);
    due("it takes bytes again", x.feed(BLANKS, 8), 8);
    x.text(0);
    due("used up by a fault, too", x.many(7), 0);
    Check.feed(x, "low=12");
    x.text(0);
    Check.feed(x, "low=1");
    due("nothing of an earlier one stays: digits", x.text(0), 7);
    Check.feed(x, "3=lower");
    x.text(0);
    Check.feed(x, "3=low");
    due("nothing of an earlier one stays: letters", x.text(0), 7);
  }

  private static void feed() {
    promise(21, "n bytes (1 to 8) come to THE TAPE, the lowest of eight first: how many it has.");
    CoarserOrders x = new CoarserOrders();
    due("one", x.feed('l', 1), 1);
    due("those above n are not taken", x.feed(0x7F7F7F7F7F7FL << 16 | 'w' << 8 | 'o', 2), 3);
    due("eight", x.feed(0x2020202020203D20L, 8), 11);
    due("the highest of eight last", x.feed(0x3320202020202020L, 8), 19);
    due("low = 3", x.text(0), 7);
    x.feed(0xFF20202020202020L, 8);
    due("a byte above 127 is the eighth", x.text(0), -107);
    promise(21, "BAD; FULL: more than 200.");
    for (int n : new int[] {0, 9, -1, MIN, MAX}) {
      refused("n is " + n, y -> y.feed(BLANKS, n), BAD);
      refused("n is " + n + " on a full one", () -> withTape(200), y -> y.feed(BLANKS, n), BAD);
    }
    due("to just 200", withTape(192).feed(BLANKS, 8), 200);
    due("to just 200 by one", withTape(199).feed(BLANKS, 1), 200);
    refused("eight to 193", () -> withTape(193), y -> y.feed(BLANKS, 8), FULL);
    refused("two to 199", () -> withTape(199), y -> y.feed(BLANKS, 2), FULL);
    refused("one to 200", () -> withTape(200), y -> y.feed(BLANKS, 1), FULL);
  }

  private static void holds(String text, int gone) {
    CoarserOrders x = fresh(4);
    Check.feed(x, text);
    due(text, x.text(0), gone);
  }

  private static void fault(String text, int place) {
    CoarserOrders x = fresh(4);
    x.contract(9);
    Check.feed(x, text);
    due(text, x.text(0), -100 - place);
    due(text + ": nothing else is gone", x.many(2), 3);
  }

  private static void conditions() {
    term("TEXT: COND, till the end.");
    fault("low=1 low=1", 6);
    fault("low=1)", 5);
    fault("", 0);
    term("COND: ALL { or ALL }      ALL: ONE { and ONE }");
    holds("high=4", 7);
    holds("low=3 or low=2 and high=3", 10);
    holds("low=2 and high=3 or low=3", 10);
    holds("low=9 or low=9 or low=9 or low=3", 7);
    holds("low=3 and low=3 and low=3 and low=9", 0);
    fault("low=1 or", 8);
    fault("or low=1", 0);
    fault("low=1 and and low=1", 10);
    term("ONE: { not } ( VALUE SIGN VALUE | \"(\" COND \")\" )");
    holds("not low<3", 7);
    holds("not not low=3", 7);
    holds("not low=1 and low=3", 7);
    holds("not(low=1 or low=2)", 7);
    holds("not low=1 or low=1", 11);
    fault("not", 3);
    fault("low not=1", 4);
    fault("()", 1);
    fault("(low)=1", 4);
    fault("low=(1)", 4);
    term("VALUE: NUMBER | low | high | left | right | last");
    holds("1=1", 11);
    holds("low=low", 11);
    holds("3=low", 7);
    fault("middle=1", 0);
    fault("and=1", 0);
    term("SIGN: < | = | >");
    holds("low<1", 0);
    holds("low<2", 7);
    holds("low=2", 9);
    holds("high>4", 0);
    holds("high>3", 7);
    fault("low!1", 3);
    fault("low;1", 3);
    fault("low?1", 3);
    fault("low<=1", 4);
  }

  private static void facts() {
    term("NUMBERS are 0 to 9999.");
    holds("left>0", 5);
    holds("low<9999", 11);
    holds("9998<9999", 11);
    holds("9<10 and 19<20 and 99<100 and 999<1000 and 1999<2000", 11);
    holds("10<9 or 1000<999", 0);
    holds("0=0000", 11);
    holds("low=0003", 7);
    term("FACTS of an ARC: a, b, l, r as above; last: N (how many numbers there are).");
    holds("low=2 and high=4", 6);
    holds("left=2", 1);
    holds("right=2", 1);
    holds("left=1 and right=1", 2);
    holds("last=4", 11);
    holds("high=last and low=3", 7);
    for (int n = 1; n <= 6; n++) {
      CoarserOrders x = fresh(n);
      Check.feed(x, "last=" + n);
      due("last of " + n, x.text(0), ARC_COUNTS[n]);
      Check.feed(x, "last>" + n);
      due("last above " + n, x.text(0), 0);
    }
  }

  private static void words() {
    term("NAMES are rows of letters a to z, NUMBERS rows of digits (1 to 4), both as long as they go;");
    fault("lowest=1", 0);
    fault("lowa=1", 0);
    fault("lowz=1", 0);
    fault("alow=1", 0);
    fault("zlow=1", 0);
    fault("lo=1", 0);
    fault("l ow=1", 0);
    fault("notlow=1", 0);
    fault("low=1orlow=2", 5);
    holds("low=1or low=2", 10);
    fault("low=1 orlow=2", 6);
    fault("LOW=1", 0);
    fault("loW=1", 0);
    fault("low@1", 3);
    fault("low[1", 3);
    fault("low=1 2", 6);
    fault("low=/", 4);
    fault("low=:", 4);
    term("blanks (32) part them, and stand elsewhere as one likes.");
    holds("low=3", 7);
    holds("   low   =   3   ", 7);
    holds(" not ( low = 1 or low = 2 ) ", 7);
    holds("not(low=1or low=2)and(low=3)", 7);
    fault("low=1\t", 5);
    fault("low=1\n", 5);
    fault((char) 0 + "low=1", 0);
    fault("low=1" + (char) 31, 5);
    fault("low=1" + (char) 160, 5);
    fault("low=1" + (char) 255, 5);
  }

  private static void open() {
    term("At most 3 \"(\" are open within one another.");
    holds("(low=3)", 7);
    holds("(((low=3)))", 7);
    holds("not(not(not(low<3)))", 7);
    holds("(((low=3)))and(((low=3)))", 7);
    holds("(((low=3)and(low=3)or(low=9)))", 7);
    holds("((low=3)or(low=9))and((low=3))and(low=3)", 7);
    fault("((((low=3))))", 3);
    fault("(((low=3 or (low=3))))", 12);
    fault("(((low=3)))or((((low=3))))", 16);
  }

  private static void faults() {
    term("FAULT: the place (from 0) of the first byte of the first NAME, NUMBER or other byte that can't stand there");
    fault("low=1 and lower=1 and <", 10);
    fault("low=1 12=1", 6);
    fault("low=1 #", 6);
    fault("#", 0);
    fault("   #", 3);
    fault("low=high=1", 8);
    term("(a NUMBER of more digits, the fourth \"(\", too)");
    fault("12345=1", 0);
    fault("low=00001", 4);
    fault("low=12345", 4);
    fault("low=  99999", 6);
    fault("((((", 3);
    fault("( ( ( (", 6);
    term("or the end (how many bytes there are), if more must come");
    fault("", 0);
    fault("  ", 2);
    fault("low", 3);
    fault("low=", 4);
    fault("low=  ", 6);
    fault("(low=1", 6);
    fault("((low=1)  ", 10);
    fault("not ", 4);
    StringBuilder blanks = new StringBuilder();
    for (int i = 0; i < 199; i++) {
      blanks.append(' ');
    }
    StringBuilder many = new StringBuilder();
    for (int i = 0; i < 100; i++) {
      many.append("1<");
    }
    fault(many.toString(), 3);
    fault(blanks + "(", 200);
    fault(blanks + ")", 199);
    fault(blanks + " ", 200);
  }

  private static void text() {
    promise(22, "ARCS come for which THE TAPE holds, HOW (0, 1, 2): how many are GONE then;");
    CoarserOrders x = fresh(1);
    for (int how = 0; how <= 2; how++) {
      Check.feed(x, "0=0");
      due("of one number", x.text(how), 0);
    }
    x.size(6);
    Check.feed(x, "0=0");
    due("all of six", x.text(0), 57);
    promise(22, "-100 less its FAULT.");
    due("of an empty tape", new CoarserOrders().text(2), -100);
    faultChangesOnlyTheTape("", "");
    faultChangesOnlyTheTape(" and", "low=1 or");
    promise(22, "BAD (THE TAPE stays).");
    for (int how : new int[] {-1, 3, MIN, MAX}) {
      refused("how " + how, y -> y.text(how), BAD);
      refused("how " + how + ", and a fault", () -> withTape("low"), y -> y.text(how), BAD);
    }
  }

  private static CoarserOrders withTape(String text) {
    CoarserOrders x = busy();
    x.text(2);
    Check.feed(x, text);
    return x;
  }

  /** After one fault, or after another one, all is the same. */
  private static void faultChangesOnlyTheTape(String text, String other) {
    Supplier<CoarserOrders> used = () -> {
      CoarserOrders x = withTape(text);
      x.text(0);
      return x;
    };
    CoarserOrders x = withTape(other);
    for (int how = 2; how >= 0; how--) {
      due("a fault", x.text(how) <= -100 ? 1 : 0, 1);
    }
    due("nothing is changed", look(x).equals(look(used.get())) ? 1 : 0, 1);
    CoarserOrders before = withTape(other);
    int gone = before.many(2);
    long which = before.gone();
    before.text(0);
    due("as many are gone", before.many(2), gone);
    due("the same are gone", before.gone(), which);
    due("the tape is used up", before.many(7), 0);
  }

  private static void clear() {
    promise(23, "Nothing is GONE: how many were.");
    CoarserOrders x = fresh(6);
    due("none", x.clear(), 0);
    x.collapse(123456, 654321);
    due("all", x.clear(), 57);
    due("nothing is gone", x.gone(), 0);
    due("again", x.clear(), 0);
    due("of one number", fresh(1).clear(), 0);
  }
}
