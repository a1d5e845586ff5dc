import java.util.function.ToLongFunction;

/** What the document says of all calls: refusals and their order, sets, and that a refused call changes nothing. */
public final class TermEdgesTest extends Edges {
  public static void main(String[] args) {
    codes();
    changesNothing();
    tapeIsUsedUp();
    firstNamed();
    lowAnswers();
    sets();
    // No promise of its own.
    end(1, 0);
  }

  private static void codes() {
    term("BAD (-1) there is no such thing, or a number is not as told;");
    refused("no such row", x -> x.of(0, 0), -1);
    refused("no such maker", x -> x.makerIs(4, 0), -1);
    refused("a number not as told", x -> x.feed(0, 9), -1);
    term("FULL (-2); NONE (-3); STATE (-4);");
    refused("full", TermEdgesTest::full, x -> x.maker(0, 0), -2);
    refused("full tape", TermEdgesTest::full, x -> x.feed(0, 1), -2);
    refused("none", x -> x.trace(30), -3);
    refused("state", () -> busy(6), x -> x.closed(0), -4);
    term("and what the host refuses: -11 nothing where something is asked, -12 a place outside, "
        + "-13 a thing of another sort or kind, -14 a size below 0, -15 parted by 0.");
    refused("nothing", x -> x.item(3, 0, 0), -11);
    refused("nothing on a shelf", x -> x.taken(3, 0), -11);
    refused("a place outside", x -> x.item(0, 0, 5), -12);
    refused("of another sort", x -> x.item(0, 1, 0), -13);
    refused("of another kind", x -> x.taken(0, 5), -13);
    refused("a size below 0", x -> x.sheet(0, 0, -1), -14);
    due("parted by 0", parting().act(0, 2, 5), -15);
  }

  private static CoarserOrders full() {
    CoarserOrders x = busy();
    while (x.many(5) < 6) {
      x.maker(0, 0);
    }
    while (x.many(7) < 200) {
      x.feed(' ', 1);
    }
    return x;
  }

  private static CoarserOrders parting() {
    CoarserOrders x = new CoarserOrders();
    x.maker(0, 0);
    x.shelf(0, 0, 0);
    return x;
  }

  /** On an object that is full, on one of six, on one of one number, each refused call. */
  private static void changesNothing() {
    term("such a call changes nothing");
    refusedEverywhere("size", x -> x.size(7));
    refusedEverywhere("of", x -> x.of(0, 0));
    refusedEverywhere("jump", x -> x.jump(0, 0, 0));
    refusedEverywhere("contract", x -> x.contract(57));
    refusedEverywhere("restore", x -> x.restore(-1));
    refusedEverywhere("collapse", x -> x.collapse(0, 0));
    refusedEverywhere("maker", x -> x.maker(6, 0));
    refusedEverywhere("make", x -> x.make(0, 3));
    refusedEverywhere("feed", x -> x.feed(-1, 0));
    refusedEverywhere("text", x -> x.text(3));
    refusedEverywhere("drawn", x -> x.drawn(61));
    refusedEverywhere("prove", x -> x.prove(0));
    refusedEverywhere("alterStep", x -> x.alterStep(-1, 0, 0));
    refusedEverywhere("judge", x -> x.judge(0));
    refusedEverywhere("sheet", x -> x.sheet(0, 0, 41));
    refusedEverywhere("sheet below 0", x -> x.sheet(0, 0, -1));
    refusedEverywhere("put", x -> x.put(0, 40, 9));
    refusedEverywhere("move", x -> x.move(0, 0, 0, 1, 40));
    refusedEverywhere("shelf", x -> x.shelf(0, 0, 6));
  }

  private static void refusedEverywhere(String call, ToLongFunction<CoarserOrders> asks) {
    for (int n : new int[] {1, 4, 6}) {
      CoarserOrders x = full(), twin = full();
      x.size(n);
      twin.size(n);
      due(call + " is refused, of " + n, asks.applyAsLong(x) < 0 ? 1 : 0, 1);
      due(call + " changes nothing, of " + n, look(x).equals(look(twin)) ? 1 : 0, 1);
    }
  }

  private static void tapeIsUsedUp() {
    term("(but that THE TAPE is used up by text())");
    CoarserOrders x = full();
    x.feed(' ', 1);
    due("full", x.many(7), 200);
    Check.feed(x, ")");
    due("read rightly", x.text(1) > 0 ? 1 : 0, 1);
    due("used up", x.many(7), 0);
    Check.feed(x, ")");
    due("a fault", x.text(1), -100);
    due("used up by that", x.many(7), 0);
    due("as an empty one", x.text(1), -100);
  }

  private static void firstNamed() {
    term("of several the first named:");
    refused("BAD, NONE", x -> x.jump(1234, 0, 9), BAD);
    refused("BAD, FULL", TermEdgesTest::full, x -> x.maker(6, 0), BAD);
    refused("BAD, FULL", TermEdgesTest::full, x -> x.feed(0, 0), BAD);
    refused("BAD, NONE", x -> x.rowOf(3L | 1L << 60), BAD);
    refused("BAD, NONE", x -> x.rotate(1234, 99, 2), BAD);
    refused("BAD, STATE", () -> busy(6), x -> x.apart(0, 123456), BAD);
    refused("BAD, STATE", () -> busy(6), x -> x.wayUp(2), BAD);
    refused("BAD, STATE", () -> busy(6), x -> x.listed(-1), BAD);
    refused("STATE, NONE", () -> busy(6), x -> x.listed(720), STATE);
    refused("BAD, STATE", () -> busy(6), x -> x.closed(2), BAD);
    refused("BAD, -13", x -> x.whatIs(0, 2), BAD);
    refused("BAD, -11", x -> x.whatIs(3, 2), BAD);
    refused("BAD, -14", x -> x.sheet(4, 0, -1), BAD);
    refused("BAD, -12", x -> x.put(4, -1, 0), BAD);
    refused("-11, -12", x -> x.put(3, -1, 0), NOTHING);
    refused("BAD, -12", x -> x.item(0, 4, -1), BAD);
    refused("-13, -12", x -> x.item(0, 1, -1), UNLIKE);
    refused("-11, -12", x -> x.item(3, 1, -1), NOTHING);
    refused("BAD, -11", x -> x.move(3, 0, 4, 0, 0), BAD);
    refused("-11, -12", x -> x.move(3, -1, 0, 0, 0), NOTHING);
    refused("-13, -12", x -> x.move(0, -1, 1, 0, 0), UNLIKE);
    refused("-13, -12", x -> x.rowFrom(1, -1), UNLIKE);
    refused("-11, -12", x -> x.rowFrom(3, -1), NOTHING);
    refused("BAD, -13", x -> x.taken(0, 14), BAD);
    refused("BAD, -11", x -> x.taken(3, 14), BAD);
  }

  private static void lowAnswers() {
    term("Answers below 0, where not told otherwise, are refusals;");
    CoarserOrders x = parting();
    x.maker(0, 9);
    x.shelf(0, 0, 1);
    due("an act's, and its trace stands", x.act(0, 0, -1) * 10L + x.many(8), -39);
    x.seed(-3);
    due("a z's, which has become another", x.seed(4), -3);
    due("it has", x.seed(1), 4);
    fill(x, 0, 3, -12);
    due("an item's", x.item(0, 3, 0), -12);
    x.contract(0);
    x.prove(2134);
    due("a step's", x.alterStep(0, 0, -9), 1234);
    due("which has become it", x.alterStep(0, 0, 7), -9);
    due("and another", x.step(0, 0), 7);
  }

  private static void sets() {
    term("Sets are told by bits (of ARCS in longs).");
    CoarserOrders x = fresh(6);
    due("of places, bit 0", x.of(213456, 1), 1);
    due("of places, bit 4", x.of(123465, 1), 16);
    due("of arcs, bit 0", x.diagram(213456), 1);
    due("of arcs, bit 56", x.diagram(123465), 1L << 56);
    due("of arcs, an int would not hold them", x.diagram(654321), 1L | 1L << 31 | 1L << 46 | 1L << 53 | 1L << 56);
    due("they tell the row", x.rowOf(1L | 1L << 31 | 1L << 46 | 1L << 53 | 1L << 56), 654321);
    x.contract(46);
    due("bit 46 of those gone", x.gone() >>> 46 & 1, 1);
    due("no bit above those of arcs", x.gone() >>> 57, 0);
    term("PLACES are 0 to N - 1 from the left.");
    due("place 0", x.arc(612345, 0), 15);
    due("place N - 2 and N - 1", x.arc(234561, 4), 30);
  }
}
