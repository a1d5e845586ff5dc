import java.util.ArrayList;
import java.util.List;

/** Reads a text by what may come next alone, without going down into parts. */
final class Reading {
  final List<String> words = new ArrayList<>();
  int fault = -1;

  Reading(String text) {
    int open = 0, awaits = 0;
    int i = 0;
    while (true) {
      while (i < text.length() && text.charAt(i) == ' ') {
        i++;
      }
      if (i >= text.length()) {
        fault = awaits == 3 && open == 0 ? -1 : text.length();
        return;
      }
      String word = wordAt(text, i);
      boolean value = word.matches("low|high|left|right|last|[0-9]{1,4}");
      // awaits: 0 a part, 1 a sign, 2 the second value, 3 what stands behind a part.
      if (awaits == 0 && word.equals("not")) {
        awaits = 0;
      } else if (awaits == 0 && word.equals("(") && open < 3) {
        open++;
      } else if (awaits == 0 && value) {
        awaits = 1;
      } else if (awaits == 1 && word.matches("[<=>]")) {
        awaits = 2;
      } else if (awaits == 2 && value) {
        awaits = 3;
      } else if (awaits == 3 && word.equals(")") && open > 0) {
        open--;
      } else if (awaits == 3 && (word.equals("and") || word.equals("or"))) {
        awaits = 0;
      } else {
        fault = i;
        return;
      }
      words.add(word);
      i += word.length();
    }
  }

  private static String wordAt(String text, int from) {
    for (String kind : new String[] {"[a-z]", "[0-9]"}) {
      int to = from;
      while (to < text.length() && text.substring(to, to + 1).matches(kind)) {
        to++;
      }
      if (to > from) {
        return text.substring(from, to);
      }
    }
    return text.substring(from, from + 1);
  }

  /** Works out what stands between "(" and ")" first, then "not", "and", "or". */
  boolean holdsFor(Naive model, int arc) {
    List<String> left = new ArrayList<>();
    for (int i = 0; i < words.size(); i++) {
      if (i + 2 < words.size() && words.get(i + 1).matches("[<=>]")) {
        int x = fact(model, words.get(i), arc), y = fact(model, words.get(i + 2), arc);
        String sign = words.get(i + 1);
        left.add((sign.equals("<") ? x < y : sign.equals(">") ? x > y : x == y) ? "T" : "F");
        i += 2;
      } else {
        left.add(words.get(i));
      }
    }
    String text = " " + String.join(" ", left) + " ";
    String before = "";
    while (!before.equals(text)) {
      before = text;
      text = text.replace(" ( T ) ", " T ").replace(" ( F ) ", " F ");
      text = text.replace(" not T ", " F ").replace(" not F ", " T ");
      if (before.equals(text)) {
        text = text.replaceFirst(" ([TF]) and F ", " F ").replaceFirst(" ([TF]) and T ", " $1 ");
      }
      if (before.equals(text)) {
        text = orOnce(text);
      }
    }
    return text.equals(" T ");
  }

  /** Only where neither side is still bound to an "and". */
  private static String orOnce(String text) {
    return text.replaceFirst("(?<! and) ([TF]) or F (?!and )", " $1 ").replaceFirst("(?<! and) ([TF]) or T (?!and )", " T ");
  }

  private static int fact(Naive model, String value, int arc) {
    int[] told = model.arcs.get(arc);
    int lefts = Integer.bitCount(told[2]);
    switch (value) {
      case "low": return told[0];
      case "high": return told[1];
      case "left": return lefts;
      case "right": return told[1] - told[0] - 1 - lefts;
      case "last": return model.n;
      default: return Integer.parseInt(value);
    }
  }
}
