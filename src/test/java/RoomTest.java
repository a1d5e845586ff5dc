import java.lang.management.ManagementFactory;

/** How much an object takes: once the tables of an N stand, no call makes anything more. */
public final class RoomTest {
  private static final com.sun.management.ThreadMXBean THREADS =
      (com.sun.management.ThreadMXBean) ManagementFactory.getThreadMXBean();
  private static int answers = 0;

  public static void main(String[] args) {
    everyCall(new CoarserOrders());
    long before = made();
    CoarserOrders x = new CoarserOrders();
    for (int n = 1; n <= 6; n++) {
      x.size(n);
    }
    long tables = made() - before;
    Check.holds("an object with all tables takes less than 300,000 bytes, here " + tables, tables < 300000);
    before = made();
    for (int i = 0; i < 7; i++) {
      everyCall(x);
    }
    long more = made() - before;
    Check.holds("calls make no more than is lost in measuring, here " + more, more < 2000);
    Check.holds("calls were made", answers != 0);
    Check.end();
  }

  private static long made() {
    return THREADS.getThreadAllocatedBytes(Thread.currentThread().getId());
  }

  private static void everyCall(CoarserOrders x) {
    for (int n = 1; n <= 6; n++) {
      x.size(n);
      int first = x.rowAt(0), last = x.rowAt(x.many(3) - 1);
      rowsAndArcs(x, first, last);
      goneAndClasses(x, first, last);
      lotsAndHost(x, first);
    }
  }

  private static void rowsAndArcs(CoarserOrders x, int first, int last) {
    answers += x.below(first, last) + x.meet(first, last) + x.join(first, last) + x.of(last, 3);
    answers += x.jump(first, x.many(0), -1) + x.arc(last, 0) + x.forces(0, 0);
    for (int what = 0; what < 7; what++) {
      answers += x.arcIs(0, what);
    }
    answers += (int) (x.diagram(last) + x.rowOf(0));
  }

  private static void goneAndClasses(CoarserOrders x, int first, int last) {
    answers += (int) x.gone() + x.contract(0) + x.restore(0) + x.collapse(first, first);
    answers += x.maker(5, 3) + x.makerIs(0, 2) + x.make(0, 0) + x.feed('1' | '<' << 8 | '2' << 16, 3) + x.text(2);
    answers += x.clear() + x.alike(last, 0) + x.alike(first, 1) + x.alike(last, 2) + x.classAt(0);
    answers += x.classes(first, last, 1) + x.classes(first, last, 2) + x.rotations(last, 0) + x.rotate(first, 0, 1);
    answers += x.apart(first, last) + x.wayUp(0) + x.listed(1) + x.closed(0) + x.closed(1);
    x.sheet(1, 2, 3);
    x.put(1, 0, first);
    x.put(1, 1, last);
    answers += x.whatIs(1, 0) + x.collapse(first, last);
  }

  private static void lotsAndHost(CoarserOrders x, int first) {
    answers += x.seed(3) + x.drawn(60) + x.prove(first) + x.step(0, 0) + x.alterStep(0, 0, 1) + x.judge(first);
    answers += x.sheet(0, 0, 40) + x.put(0, 0, 1) + x.item(0, 0, 0) + x.move(0, 0, 0, 1, 9) + x.rowFrom(0, 0);
    answers += x.shelf(0, 0, 0) + x.taken(0, 2) + x.act(0, 3, 7) + x.trace(0);
    answers += x.many(4) + x.keep() + x.again();
  }
}
