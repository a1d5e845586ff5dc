import java.lang.reflect.Method;
import java.lang.reflect.Modifier;
import java.util.ArrayList;
import java.util.Arrays;
import java.util.Comparator;
import java.util.List;
import java.util.Random;
import java.util.Set;

/** Calls by lot, with numbers of all kinds: none throws, none that is refused changes anything, the same calls answer the same. */
public final class AnyCallsTest {
  private static final int RUNS = 400, CALLS = 512;
  /** Answers below 0 are no refusals here. */
  private static final Set<String> ANY_ANSWER = Set.of("seed", "item", "act", "step", "alterStep", "text");
  private static final int[] ROWS = {1, 12, 21, 123, 321, 231, 1234, 4321, 3142, 2413, 12345, 54321, 31524, 123456, 654321, 415263};
  private static final int[] EDGES = {Integer.MIN_VALUE, Integer.MIN_VALUE + 1, Integer.MAX_VALUE, -1, 40, 41, 57, 64, 200, 719, 720};

  public static void main(String[] args) throws Exception {
    List<Method> calls = new ArrayList<>();
    for (Method method : CoarserOrders.class.getDeclaredMethods()) {
      if (Modifier.isPublic(method.getModifiers())) {
        calls.add(method);
      }
    }
    calls.sort(Comparator.comparing(Method::getName));
    Check.due("methods of the face", calls.size(), 50);
    Check.due("constants of the face", Arrays.stream(CoarserOrders.class.getDeclaredFields())
        .filter(field -> Modifier.isPublic(field.getModifiers())).count(), 4);
    for (int run = 0; run < RUNS; run++) {
      run(calls, run);
    }
    Check.end();
  }

  private static void run(List<Method> calls, int number) throws Exception {
    Random random = new Random(number);
    CoarserOrders x = new CoarserOrders(), twin = new CoarserOrders();
    for (int i = 0; i < CALLS; i++) {
      Method call = calls.get(random.nextInt(calls.size()));
      if (call.getName().equals("size") && random.nextInt(3) > 0) {
        continue;
      }
      Object[] with = arguments(call, random);
      boolean isLooked = number % 40 == 0;
      String before = isLooked ? look(x) : "";
      long answer = ((Number) call.invoke(x, with)).longValue();
      String told = "run " + number + ": " + call.getName() + Arrays.toString(with);
      Check.due(told, ((Number) call.invoke(twin, with)).longValue(), answer);
      boolean isRefused = answer < 0 && !ANY_ANSWER.contains(call.getName());
      if (isLooked && isRefused) {
        Check.holds(told + " refused, changes nothing", before.equals(look(x)));
      }
      Check.holds(told + " a known refusal: " + answer, !isRefused || isKnown(answer));
    }
  }

  private static boolean isKnown(long answer) {
    return answer >= -4 || answer >= -14 && answer <= -11 || answer == -15;
  }

  private static Object[] arguments(Method call, Random random) {
    Class<?>[] types = call.getParameterTypes();
    Object[] with = new Object[types.length];
    for (int i = 0; i < types.length; i++) {
      if (types[i] == long.class) {
        with[i] = random.nextBoolean() ? random.nextLong() : (Long) (1L << random.nextInt(64) | 1L << random.nextInt(12));
      } else {
        with[i] = number(random);
      }
    }
    return with;
  }

  private static int number(Random random) {
    switch (random.nextInt(8)) {
      case 0: return EDGES[random.nextInt(EDGES.length)];
      case 1: case 2: case 3: return ROWS[random.nextInt(ROWS.length)];
      case 4: return random.nextInt();
      default: return random.nextInt(8) - 1;
    }
  }

  /** All that can be asked without changing anything (z apart: it is set back). */
  private static String look(CoarserOrders x) {
    StringBuilder seen = new StringBuilder();
    for (int what = 0; what <= 8; what++) {
      seen.append(x.many(what)).append(' ');
    }
    int z = x.seed(0);
    x.seed(z);
    seen.append(z).append(' ').append(x.gone());
    for (int i = 0; i < 6; i++) {
      seen.append(' ').append(x.makerIs(i, 0)).append(' ').append(x.makerIs(i, 1));
    }
    for (int i = 0; i < 15; i++) {
      seen.append(' ').append(x.step(i, 0)).append(' ').append(x.step(i, 1)).append(' ').append(x.trace(i));
    }
    for (int sheet = 0; sheet < 4; sheet++) {
      for (int sort = 0; sort < 4; sort++) {
        for (int i = 0; i < 40; i++) {
          seen.append(' ').append(x.item(sheet, sort, i));
        }
        seen.append(' ').append(x.taken(sheet, 10 + sort));
      }
      for (int as = 0; as < 6; as++) {
        seen.append(' ').append(x.taken(sheet, as));
      }
    }
    return seen.toString();
  }
}
