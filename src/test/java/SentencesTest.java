import java.io.IOException;
import java.nio.file.DirectoryStream;
import java.nio.file.Files;
import java.nio.file.Path;
import java.util.Arrays;
import java.util.regex.Matcher;
import java.util.regex.Pattern;

/**
 * No sentence of the document's terms and promises is left out by the tests that quote it ({@link Edges}): what is left
 * of a part when all that they quote is taken away are labels ("ROWS BY LOT:"), fences and stops.
 */
public final class SentencesTest {
  private static final String STRING = "\"(?:[^\"\\\\]|\\\\.)*\"";
  private static final Pattern QUOTE =
      Pattern.compile("\\b(?:term|promise)\\((?:(\\d+),\\s*)?(" + STRING + "(?:\\s*\\+\\s*" + STRING + ")*)\\)");
  private static final Pattern LABELS =
      Pattern.compile("(?:\\s|[.;,]|```text|```|={8} [123]|[A-Za-z][A-Za-z ,]{0,45}:)*");
  private static final int PROMISES = 51;

  private final String words;
  private final boolean[] isQuoted;

  private SentencesTest(String words) {
    this.words = words;
    isQuoted = new boolean[words.length()];
  }

  public static void main(String[] args) throws IOException {
    String document = Files.readString(Path.of("../shared/DOC.md"));
    SentencesTest[] parts = new SentencesTest[PROMISES + 1];
    int terms = document.indexOf("\n## Terms\n") + "\n## Terms\n".length();
    // What stands from here on is of the order of calls: FaceTest looks at that.
    parts[0] = new SentencesTest(document.substring(terms, document.indexOf("\nAhead of the calls", terms)));
    for (int number = 1; number <= PROMISES; number++) {
      int from = document.indexOf("\n## Promise " + number + ":");
      Check.holds("there is a promise " + number, from >= 0);
      int begin = document.indexOf("`: ", from) + 3;
      parts[number] = new SentencesTest(document.substring(begin, document.indexOf("\n## ", begin)));
    }
    Check.holds("there is no promise more", !document.contains("\n## Promise " + (PROMISES + 1)));
    int quotes = 0;
    try (DirectoryStream<Path> tests = Files.newDirectoryStream(Path.of("src/test/java"), "*EdgesTest.java")) {
      for (Path test : tests) {
        quotes += take(parts, Files.readString(test));
      }
    }
    Check.holds("many quotes, here " + quotes, quotes > PROMISES);
    for (int number = 0; number <= PROMISES; number++) {
      parts[number].dueAll(number == 0 ? "terms" : "promise " + number);
    }
    Check.end();
  }

  private static int take(SentencesTest[] parts, String test) {
    Matcher quote = QUOTE.matcher(test);
    int quotes = 0;
    while (quote.find()) {
      int number = quote.group(1) == null ? 0 : Integer.parseInt(quote.group(1));
      parts[number].takeAway(joined(quote.group(2)));
      quotes++;
    }
    return quotes;
  }

  private static String joined(String strings) {
    StringBuilder all = new StringBuilder();
    Matcher each = Pattern.compile(STRING).matcher(strings);
    while (each.find()) {
      all.append(each.group(), 1, each.group().length() - 1);
    }
    return all.toString().translateEscapes();
  }

  private void takeAway(String quoted) {
    int at = words.indexOf(quoted);
    Check.holds("the document says: " + quoted, at >= 0);
    if (at >= 0) {
      Arrays.fill(isQuoted, at, at + quoted.length(), true);
    }
  }

  private void dueAll(String part) {
    int from = 0;
    for (int i = 0; i <= words.length(); i++) {
      if (i == words.length() || isQuoted[i]) {
        String left = words.substring(from, i);
        if (!left.isEmpty()) {
          Check.holds(part + ": a test quotes \"" + left + "\"", LABELS.matcher(left).matches());
        }
        from = i + 1;
      }
    }
  }
}
