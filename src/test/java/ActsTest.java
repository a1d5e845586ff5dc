import java.util.ArrayList;
import java.util.List;
import java.util.Random;

/** ACTS (promises 46 to 48) against classes of Java that stand above one another as the KINDS do. */
public final class ActsTest {
  private static final List<Integer> TRACE = new ArrayList<>();

  private static class Plain {
    final int n, m;

    Plain(int n, int m) {
      this.n = n;
      this.m = m;
    }

    int turns(int x) {
      TRACE.add(10);
      return x * 5 + n;
    }

    int bends(int x) {
      TRACE.add(11);
      return turns(x) - m;
    }

    int parts(int x) {
      TRACE.add(12);
      return x / (m - n);
    }

    int joins(int x) {
      TRACE.add(13);
      return bends(x) ^ parts(x + 1);
    }
  }

  private static class Lefty extends Plain {
    Lefty(int n, int m) {
      super(n, m);
    }

    @Override int turns(int x) {
      TRACE.add(20);
      return super.turns(x) ^ 9;
    }
  }

  private static class Longer extends Plain {
    Longer(int n, int m) {
      super(n, m);
    }

    @Override int bends(int x) {
      TRACE.add(30);
      return super.bends(x) * 3;
    }

    @Override int parts(int x) {
      TRACE.add(31);
      return super.parts(x) + turns(n);
    }
  }

  private static final class Both extends Lefty {
    Both(int n, int m) {
      super(n, m);
    }

    @Override int turns(int x) {
      TRACE.add(40);
      return 0 - super.turns(x + 2);
    }
  }

  private static final class Signed extends Lefty {
    Signed(int n, int m) {
      super(n, m);
    }

    @Override int joins(int x) {
      TRACE.add(50);
      return super.joins(x) - bends(m);
    }
  }

  private static final class Mixed extends Longer {
    Mixed(int n, int m) {
      super(n, m);
    }

    @Override int parts(int x) {
      TRACE.add(60);
      return super.parts(x - m) ^ 5;
    }

    @Override int joins(int x) {
      TRACE.add(61);
      return super.joins(x) + bends(1);
    }
  }

  private static final Class<?>[] KINDS = {
    Plain.class, Lefty.class, Longer.class, Both.class, Signed.class, Mixed.class};

  private static Plain made(int kind, int n, int m) {
    switch (kind) {
      case 0: return new Plain(n, m);
      case 1: return new Lefty(n, m);
      case 2: return new Longer(n, m);
      case 3: return new Both(n, m);
      case 4: return new Signed(n, m);
      default: return new Mixed(n, m);
    }
  }

  private static int answer(Plain maker, int act, int x) {
    TRACE.clear();
    try {
      switch (act) {
        case 0: return maker.turns(x);
        case 1: return maker.bends(x);
        case 2: return maker.parts(x);
        default: return maker.joins(x);
      }
    } catch (ArithmeticException partedBy0) {
      return -15;
    }
  }

  public static void main(String[] args) {
    Random random = new Random(7);
    int[] edges = {Integer.MIN_VALUE, Integer.MAX_VALUE, -1, 0, 1};
    for (int round = 0; round < 300; round++) {
      CoarserOrders x = new CoarserOrders();
      for (int n = 0; n < 6; n++) {
        int kind = random.nextInt(6), m = random.nextInt(round % 2 == 0 ? 16 : 7);
        Plain maker = made(kind, n, m);
        x.maker(kind, m);
        x.shelf(n % 4, 0, n);
        for (int as = 0; as < 6; as++) {
          Check.due("taken as " + as, x.taken(n % 4, as), KINDS[as].isInstance(maker) ? n : -13);
        }
        for (int act = 0; act < 4; act++) {
          int v = random.nextInt(4) == 0 ? edges[random.nextInt(5)] : random.nextInt(2001) - 1000;
          Check.due("act " + kind + " " + act + " " + v, x.act(n % 4, act, v), answer(maker, act, v));
          Check.due("bodies", x.many(8), TRACE.size());
          for (int i = 0; i < TRACE.size(); i++) {
            Check.due("trace " + i, x.trace(i), TRACE.get(i));
          }
        }
      }
    }
    Check.end();
  }
}
