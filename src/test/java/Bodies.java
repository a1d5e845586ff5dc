import java.util.ArrayList;
import java.util.List;

/** MAKERS as classes of Java, which stand above one another as the KINDS do. */
final class Bodies {
  static final List<Integer> TRACE = new ArrayList<>();

  static class Plain {
    final int n, m;

    Plain(int n, int m) {
      this.n = n;
      this.m = m;
    }

    int turns(int x) {
      TRACE.add(10);
      return x * 5 + n;
    }

    int bends(int x) {
      TRACE.add(11);
      return turns(x) - m;
    }

    int parts(int x) {
      TRACE.add(12);
      return x / (m - n);
    }

    int joins(int x) {
      TRACE.add(13);
      return bends(x) ^ parts(x + 1);
    }
  }

  private static class Lefty extends Plain {
    Lefty(int n, int m) {
      super(n, m);
    }

    @Override int turns(int x) {
      TRACE.add(20);
      return super.turns(x) ^ 9;
    }
  }

  private static class Longer extends Plain {
    Longer(int n, int m) {
      super(n, m);
    }

    @Override int bends(int x) {
      TRACE.add(30);
      return super.bends(x) * 3;
    }

    @Override int parts(int x) {
      TRACE.add(31);
      return super.parts(x) + turns(n);
    }
  }

  private static final class Both extends Lefty {
    Both(int n, int m) {
      super(n, m);
    }

    @Override int turns(int x) {
      TRACE.add(40);
      return 0 - super.turns(x + 2);
    }
  }

  private static final class Signed extends Lefty {
    Signed(int n, int m) {
      super(n, m);
    }

    @Override int joins(int x) {
      TRACE.add(50);
      return super.joins(x) - bends(m);
    }
  }

  private static final class Mixed extends Longer {
    Mixed(int n, int m) {
      super(n, m);
    }

    @Override int parts(int x) {
      TRACE.add(60);
      return super.parts(x - m) ^ 5;
    }

    @Override int joins(int x) {
      TRACE.add(61);
      return super.joins(x) + bends(1);
    }
  }

  static final Class<?>[] KINDS = {
    Plain.class, Lefty.class, Longer.class, Both.class, Signed.class, Mixed.class};

  static Plain made(int kind, int n, int m) {
    switch (kind) {
      case 0: return new Plain(n, m);
      case 1: return new Lefty(n, m);
      case 2: return new Longer(n, m);
      case 3: return new Both(n, m);
      case 4: return new Signed(n, m);
      default: return new Mixed(n, m);
    }
  }

  static int answer(Plain maker, int act, int x) {
    TRACE.clear();
    try {
      switch (act) {
        case 0: return maker.turns(x);
        case 1: return maker.bends(x);
        case 2: return maker.parts(x);
        default: return maker.joins(x);
      }
    } catch (ArithmeticException partedBy0) {
      return -15;
    }
  }
}
