import java.util.Random;

/** TEXTS (promises 21, 22): faults by hand, and texts by lot against the longest beginning that can still go on. */
public final class TextTest {
  private static final Naive MODEL = new Naive(5);
  private static final String[] WORDS = {
    "low", "high", "left", "right", "last", "and", "or", "not", "(", ")", "<", "=", ">", "0", "1", "2", "0003", "9999",
    "10000", "lower", "#", "A", "notlow"};

  public static void main(String[] args) {
    faultsByHand();
    Random random = new Random(22);
    for (int i = 0; i < 20000; i++) {
      byLot(random);
    }
    for (int i = 0; i < 4000; i++) {
      rightByLot(random);
    }
    Check.end();
  }

  private static void fault(String text, int due) {
    CoarserOrders x = new CoarserOrders();
    Check.feed(x, text);
    Check.due("bytes", x.many(7), text.length());
    Check.due("text " + text, x.text(0), -100 - due);
    Check.due("used up", x.many(7), 0);
  }

  private static void holds(String text, int due) {
    CoarserOrders x = new CoarserOrders();
    Check.feed(x, text);
    Check.due("text " + text, x.text(0), due);
  }

  private static void faultsByHand() {
    fault("", 0);
    fault("   ", 3);
    fault("low", 3);
    fault("low ", 4);
    fault("low<", 4);
    fault("low<low low", 8);
    fault("low<5low", 5);
    fault("low5<1", 3);
    fault("low<10000", 4);
    fault("00001<low", 0);
    fault("12 13<low", 3);
    fault("lowlow<1", 0);
    fault("Low<1", 0);
    fault("lowz<1", 0);
    fault("lowa<1", 0);
    fault("low`<1", 3);
    fault("low{<1", 3);
    fault("low<1)", 5);
    fault("(low<1", 6);
    fault("()", 1);
    fault("((((low<1))))", 3);
    fault("(((low<1)))and((((low<1))))", 17);
    fault("not", 3);
    fault("low not<1", 4);
    fault("not not(", 8);
    fault("low<1 and", 9);
    fault("low<1 and or", 10);
    fault("low<1 low", 6);
    fault("low<(low<1)", 4);
    fault("(low)<1", 4);
    fault("low=1\tor low=2", 5);
    fault("low=1" + (char) 228, 5);
    fault("low==1", 4);
    fault("and", 0);
    fault("-1<low", 0);
    holds("low<5and high<5", 11);
    holds("not(left>0)and not(right>0)", 11);
    holds("  low = 1  ", 7);
    holds("0005=5", 11);
    holds("9999<last", 0);
    holds("last=4", 11);
    holds("((( low=3 )))", 7);
    holds("((low=3))and((low=3))and(((low=3)))", 7);
    holds("low=1 or low=3 and high=1", 7);
    holds("not low=1 and not not low=3", 7);
    StringBuilder nots = new StringBuilder();
    for (int i = 0; i < 48; i++) {
      nots.append("not ");
    }
    holds(nots + "low=3", 7);
    fault(nots + "not(low=", 200);
  }

  /** Words by lot, mostly wrong somewhere. */
  private static void byLot(Random random) {
    StringBuilder text = new StringBuilder();
    int many = random.nextInt(14);
    for (int i = 0; i < many; i++) {
      // Words that often go on rightly, so that faults stand deep too.
      String word = random.nextInt(3) > 0 ? likely(text, random) : WORDS[random.nextInt(WORDS.length)];
      text.append(word).append(random.nextInt(3) > 0 ? " " : "");
    }
    check(text.toString());
  }

  private static String likely(StringBuilder before, Random random) {
    String[] tries = {"low", "=", "1", "and", "(", ")", "or", "not"};
    for (int i = 0; i < 6; i++) {
      String word = tries[random.nextInt(tries.length)];
      Reading reading = new Reading(before + " " + word + " ");
      if (reading.fault < 0 || reading.fault >= before.length() + 2 + word.length()) {
        return word;
      }
    }
    return "high";
  }

  private static void rightByLot(Random random) {
    String text = cond(random, 0);
    if (text.length() <= 200) {
      check(text);
    }
  }

  private static String cond(Random random, int open) {
    String text = one(random, open);
    for (int i = 0; i < 3 && random.nextBoolean(); i++) {
      text += (random.nextBoolean() ? " and " : " or ") + one(random, open);
    }
    return text;
  }

  private static String one(Random random, int open) {
    String turned = random.nextInt(3) == 0 ? "not " : "";
    if (open < 3 && random.nextInt(3) == 0) {
      return turned + "(" + cond(random, open + 1) + ")";
    }
    return turned + WORDS[random.nextInt(5)] + WORDS[10 + random.nextInt(3)]
        + (random.nextBoolean() ? "" + random.nextInt(6) : WORDS[random.nextInt(5)]);
  }

  private static void check(String text) {
    if (text.length() > 200) {
      return;
    }
    CoarserOrders x = new CoarserOrders();
    x.size(5);
    Check.feed(x, text);
    Reading reading = new Reading(text);
    if (reading.fault >= 0) {
      Check.due("text " + text, x.text(0), -100 - reading.fault);
      return;
    }
    long set = 0;
    for (int arc = 0; arc < MODEL.arcs.size(); arc++) {
      set |= reading.holdsFor(MODEL, arc) ? 1L << arc : 0;
    }
    Check.due("text " + text, x.text(0), Long.bitCount(MODEL.withForced(set)));
    Check.due("gone by " + text, x.gone(), MODEL.withForced(set));
  }
}
