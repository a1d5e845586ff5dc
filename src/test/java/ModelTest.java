import java.lang.reflect.InvocationTargetException;
import java.lang.reflect.Method;
import java.lang.reflect.Modifier;
import java.util.ArrayList;
import java.util.Arrays;
import java.util.HashMap;
import java.util.List;
import java.util.Map;
import java.util.Random;

/** Runs of 512 calls by lot on an object and on the model: each answer is the same. */
public final class ModelTest {
  private static final int RUNS = 300, CALLS = 512;
  private static final int[] EDGES = {Integer.MIN_VALUE, Integer.MAX_VALUE, -1, 0, 7, 13, 40, 41, 57, 60, 64, 119, 120};
  private static final String[] TEXTS = {
    "low=1", "left>0 and right>0", "not (high<last or low>1)", "(left>right)or high=3", "low=2 and", "low<<1", "left=1",
    "((((left=0))))", "high=4 and left=2", "low=2 or low=3 and right=0", "last>3 and low=1 and left=0", "low = 0001 "};
  private final Random random;
  private final CoarserOrders x = new CoarserOrders();
  private final Model model = new Model();
  private final Map<String, Method> calls, models;
  private final String run;
  private int left = CALLS;

  private ModelTest(int number, Map<String, Method> calls, Map<String, Method> models) {
    run = "run " + number + ", ";
    random = new Random(number);
    this.calls = calls;
    this.models = models;
  }

  public static void main(String[] args) throws Exception {
    Map<String, Method> calls = new HashMap<>(), models = new HashMap<>();
    for (Method call : Model.class.getDeclaredMethods()) {
      models.put(call.getName(), call);
    }
    for (Method call : CoarserOrders.class.getDeclaredMethods()) {
      if (Modifier.isPublic(call.getModifiers()) && models.containsKey(call.getName())) {
        calls.put(call.getName(), call);
      }
    }
    Check.due("calls that the model has", calls.size(), 50);
    for (int number = 0; number < RUNS; number++) {
      new ModelTest(number, calls, models).go();
    }
    Check.end();
  }

  private void go() throws Exception {
    List<String> names = new ArrayList<>(calls.keySet());
    names.sort(null);
    ask("size", 1 + random.nextInt(6));
    while (left > 60) {
      switch (random.nextInt(14)) {
        case 0: feedText(); break;
        case 1: fillThrees(); break;
        case 2: fillBytes(); break;
        case 3: provesAndJudges(); break;
        case 4: showList(); break;
        default: any(names.get(random.nextInt(names.size())));
      }
    }
  }

  private long ask(String name, Object... with) throws Exception {
    left--;
    String told = run + name + Arrays.toString(with);
    long want, got;
    try {
      want = ((Number) models.get(name).invoke(model, with)).longValue();
      got = ((Number) calls.get(name).invoke(x, with)).longValue();
    } catch (InvocationTargetException e) {
      throw new IllegalStateException(told, e.getCause());
    }
    if (want != Model.UNTOLD) {
      Check.due(told, got, want);
    }
    return got;
  }

  private void any(String name) throws Exception {
    if (name.equals("size") && random.nextInt(4) > 0 || name.equals("clear") && random.nextBoolean()) {
      return;
    }
    Class<?>[] types = calls.get(name).getParameterTypes();
    Object[] with = new Object[types.length];
    for (int i = 0; i < types.length; i++) {
      with[i] = types[i] == long.class ? (Object) aLong() : (Object) anInt(name, i);
    }
    ask(name, with);
  }

  private long aLong() throws Exception {
    return random.nextInt(3) == 0 ? random.nextLong() : (Long) models.get("diagram").invoke(model, aRow());
  }

  private int aRow() {
    return model.allRows().get(random.nextInt(model.allRows().size()));
  }

  private int anInt(String name, int place) {
    if (random.nextInt(12) == 0) {
      return EDGES[random.nextInt(EDGES.length)];
    }
    if (random.nextInt(25) == 0) {
      return random.nextInt();
    }
    boolean isRow = switch (name) {
      case "below", "meet", "join", "collapse", "apart", "classes" -> place < 2;
      case "of", "jump", "arc", "diagram", "alike", "rotations", "rotate", "prove", "judge" -> place == 0;
      default -> false;
    };
    boolean isGreat = switch (name) {
      case "rowAt", "classAt", "listed", "arcIs", "forces", "contract", "restore", "drawn" -> place == 0 || name.equals("forces");
      case "act" -> place == 2;
      default -> false;
    };
    int sign = name.equals("jump") && place == 2 && random.nextBoolean() ? -1 : 1;
    return isRow ? aRow() : isGreat ? random.nextInt(60) : sign * random.nextInt(random.nextInt(4) == 0 ? 16 : 5);
  }

  private void feedText() throws Exception {
    String text = TEXTS[random.nextInt(TEXTS.length)];
    for (int from = 0; from < text.length(); from += 8) {
      int n = Math.min(8, text.length() - from);
      long eight = 0;
      for (int i = n - 1; i >= 0; i--) {
        eight = eight * 256 + text.charAt(from + i);
      }
      ask("feed", eight, n);
    }
    ask("text", random.nextInt(3));
  }

  private void fillThrees() throws Exception {
    int sheet = random.nextInt(4), threes = random.nextInt(3);
    ask("sheet", sheet, 2, 3 * threes);
    for (int i = 0; i < threes; i++) {
      int row = aRow();
      int other = random.nextBoolean() ? (int) ask("alike", row, random.nextInt(2)) : aRow();
      ask("put", sheet, 3 * i, (long) row);
      ask("put", sheet, 3 * i + 1, (long) other);
      ask("put", sheet, 3 * i + 2, (long) random.nextInt(2));
    }
    ask("whatIs", sheet, 0);
    ask("whatIs", sheet, 1);
  }

  private void fillBytes() throws Exception {
    int sheet = random.nextInt(4), n = model.n() + random.nextInt(2);
    ask("sheet", sheet, 0, n);
    String digits = "" + aRow() + random.nextInt(8);
    for (int i = 0; i < n; i++) {
      ask("put", sheet, i, (long) digits.charAt(i) - '0');
    }
    ask("rowFrom", sheet, 0);
    ask("rowFrom", sheet, 1);
    ask("move", sheet, 0, random.nextInt(4), random.nextInt(3), random.nextInt(3));
  }

  private void provesAndJudges() throws Exception {
    int row = aRow();
    long many = ask("prove", row);
    ask("judge", row);
    if (many > 0 && random.nextBoolean()) {
      int i = random.nextInt((int) many), what = random.nextInt(2);
      int v = what == 0 ? aRow() : random.nextInt(12);
      ask("alterStep", i, what, v);
      ask("judge", row);
    }
  }

  private void showList() throws Exception {
    ask("many", 3);
    int from = random.nextInt(20);
    for (int i = from; i < from + 4; i++) {
      ask("listed", i);
    }
  }
}
