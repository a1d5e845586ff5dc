import java.util.Random;

/** ACTS (promises 46 to 48) against classes of Java that stand above one another as the KINDS do. */
public final class ActsTest {
  public static void main(String[] args) {
    Random random = new Random(7);
    int[] edges = {Integer.MIN_VALUE, Integer.MAX_VALUE, -1, 0, 1};
    for (int round = 0; round < 300; round++) {
      CoarserOrders x = new CoarserOrders();
      for (int n = 0; n < 6; n++) {
        int kind = random.nextInt(6), m = random.nextInt(round % 2 == 0 ? 16 : 7);
        Bodies.Plain maker = Bodies.made(kind, n, m);
        x.maker(kind, m);
        x.shelf(n % 4, 0, n);
        for (int as = 0; as < 6; as++) {
          Check.due("taken as " + as, x.taken(n % 4, as), Bodies.KINDS[as].isInstance(maker) ? n : -13);
        }
        for (int act = 0; act < 4; act++) {
          int v = random.nextInt(4) == 0 ? edges[random.nextInt(5)] : random.nextInt(2001) - 1000;
          Check.due("act " + kind + " " + act + " " + v, x.act(n % 4, act, v), Bodies.answer(maker, act, v));
          Check.due("bodies", x.many(8), Bodies.TRACE.size());
          for (int i = 0; i < Bodies.TRACE.size(); i++) {
            Check.due("trace " + i, x.trace(i), Bodies.TRACE.get(i));
          }
        }
      }
    }
    Check.end();
  }
}
