import java.io.IOException;
import java.io.UncheckedIOException;
import java.nio.charset.StandardCharsets;
import java.nio.file.Files;
import java.nio.file.Path;
import java.util.HashMap;
import java.util.HashSet;
import java.util.Map;
import java.util.Set;
import java.util.function.Supplier;
import java.util.function.ToLongFunction;
import java.util.regex.Matcher;
import java.util.regex.Pattern;

/**
 * Tests by the document's own sentences: one is told (and looked up in the document), and all that is asked until the
 * next is told belongs to it. At the end each refusal that a promise names must have been seen.
 */
abstract class Edges {
  static final int BAD = -1, FULL = -2, NONE = -3, STATE = -4, NO_STEP = -9;
  static final int NOTHING = -11, OUTSIDE = -12, UNLIKE = -13, BELOW_ZERO = -14, PARTED = -15;
  static final int MIN = Integer.MIN_VALUE, MAX = Integer.MAX_VALUE;

  private static final Pattern REFUSALS = Pattern.compile("\\b(BAD|FULL|NONE|STATE)\\b|(?<!\\w)(-9|-1[1-5])\\b");
  private static final Map<String, Integer> NAMED = Map.of("BAD", BAD, "FULL", FULL, "NONE", NONE, "STATE", STATE);
  private static final String DOCUMENT = document();

  private static int promise = 0;
  private static String sentence = "";
  private static int askedOfIt = 1;
  private static final Map<Integer, Set<Integer>> SEEN = new HashMap<>();

  private static String document() {
    try {
      return Files.readString(Path.of("../shared/DOC.md"), StandardCharsets.UTF_8);
    } catch (IOException e) {
      throw new UncheckedIOException(e);
    }
  }

  private static String part(String heading) {
    int from = DOCUMENT.indexOf("\n## " + heading);
    Check.holds("the document has a part " + heading, from >= 0);
    int to = DOCUMENT.indexOf("\n## ", from + 1);
    return to < 0 ? DOCUMENT.substring(from) : DOCUMENT.substring(from, to);
  }

  static void use(String words) {
    begin(0, part("What it is"), words);
  }

  static void term(String words) {
    begin(0, part("Terms"), words);
  }

  static void promise(int number, String words) {
    SEEN.computeIfAbsent(number, k -> new HashSet<>());
    begin(number, part("Promise " + number + ":"), words);
  }

  private static void begin(int number, String within, String words) {
    Check.holds("something is asked of: " + sentence, askedOfIt > 0);
    promise = number;
    sentence = words;
    askedOfIt = 0;
    Check.holds("the document says: " + words, within.contains(words));
  }

  static void due(String call, long got, long want) {
    askedOfIt++;
    Check.due((promise == 0 ? "" : promise + " ") + "\"" + sentence + "\": " + call, got, want);
  }

  /** A call on a busy object is refused, and changes nothing. */
  static void refused(String call, ToLongFunction<CoarserOrders> asks, int want) {
    refused(call, Edges::busy, asks, want);
  }

  /** The same, on an object made as told. */
  static void refused(String call, Supplier<CoarserOrders> makes, ToLongFunction<CoarserOrders> asks, int want) {
    CoarserOrders x = makes.get();
    due(call, asks.applyAsLong(x), want);
    SEEN.computeIfAbsent(promise, k -> new HashSet<>()).add(want);
    Check.due(call + " changes nothing", look(x).equals(look(makes.get())) ? 1 : 0, 1);
  }

  static CoarserOrders fresh(int n) {
    CoarserOrders x = new CoarserOrders();
    x.size(n);
    return x;
  }

  /** An object that has something of everything: N is 4; SHEET 3 is missing, SHELF 3 holds nothing. */
  static CoarserOrders busy() {
    CoarserOrders x = new CoarserOrders();
    x.maker(3, 1);
    x.maker(5, 2);
    x.maker(2, 0);
    x.contract(9);
    x.seed(77);
    x.keep();
    x.maker(4, 6);
    x.contract(0);
    x.seed(78);
    x.prove(4321);
    Check.feed(x, "low=2");
    fill(x, 0, 0, 3, 1, 4, 2, 9);
    fill(x, 1, 1, 300, -300);
    fill(x, 2, 2, 1234, 2134, 1);
    x.shelf(0, 0, 0);
    x.shelf(1, 1, 0);
    x.shelf(2, 0, 1);
    x.act(2, 1, 6);
    return x;
  }

  static CoarserOrders busy(int n) {
    CoarserOrders x = busy();
    x.size(n);
    x.contract(0);
    return x;
  }

  static void fill(CoarserOrders x, int sheet, int sort, long... items) {
    x.sheet(sheet, sort, items.length);
    for (int i = 0; i < items.length; i++) {
      x.put(sheet, i, items[i]);
    }
  }

  /** All that can be seen of an object, by less than 300 calls, of which the last change it. */
  static String look(CoarserOrders x) {
    StringBuilder seen = new StringBuilder();
    lookAtOrder(x, seen);
    for (int i = 0; i < 15; i++) {
      add(seen, x.step(i, 0), x.step(i, 1), x.trace(i));
    }
    for (int sheet = 0; sheet < 4; sheet++) {
      for (int sort = 0; sort < 4; sort++) {
        for (int i = 0; i < 6; i++) {
          add(seen, x.item(sheet, sort, i));
        }
        add(seen, x.taken(sheet, 10 + sort));
      }
      for (int as = 0; as < 6; as++) {
        add(seen, x.taken(sheet, as));
      }
    }
    add(seen, x.seed(0), x.text(0));
    lookAtOrder(x, seen);
    add(seen, x.again(), x.seed(0));
    lookAtOrder(x, seen);
    return seen.toString();
  }

  private static void lookAtOrder(CoarserOrders x, StringBuilder seen) {
    for (int what = 0; what <= 8; what++) {
      add(seen, x.many(what));
    }
    add(seen, x.gone());
    for (int maker = 0; maker < 6; maker++) {
      add(seen, x.makerIs(maker, 0), x.makerIs(maker, 1));
    }
  }

  private static void add(StringBuilder seen, long... answers) {
    for (long answer : answers) {
      seen.append(answer).append(' ');
    }
  }

  /** Each of these promises had a sentence told, and each refusal that it names was seen. */
  static void end(int first, int last) {
    Check.holds("something is asked of: " + sentence, askedOfIt > 0);
    for (int number = first; number <= last; number++) {
      Check.holds("promise " + number + " has a sentence told", SEEN.containsKey(number));
      String words = part("Promise " + number + ":");
      Matcher found = REFUSALS.matcher(words.substring(words.indexOf("`: ") + 3));
      while (found.find()) {
        int code = found.group(1) != null ? NAMED.get(found.group(1)) : Integer.parseInt(found.group(2));
        boolean isSeen = SEEN.getOrDefault(number, Set.of()).contains(code);
        Check.holds("promise " + number + ": " + found.group() + " was seen", isSeen);
      }
    }
    Check.end();
  }
}
