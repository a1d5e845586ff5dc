import java.io.IOException;
import java.nio.charset.StandardCharsets;
import java.nio.file.Files;
import java.nio.file.Path;
import java.util.ArrayList;
import java.util.HashSet;
import java.util.List;
import java.util.Set;
import java.util.regex.Matcher;
import java.util.regex.Pattern;

/** Those rules of ../shared/LANGUAGE.md that can be seen in the words of the source. */
public final class LanguageTest {
  private static final Path SOURCE = Path.of("src/main/java/CoarserOrders.java");

  public static void main(String[] args) throws IOException {
    byte[] bytes = Files.readAllBytes(SOURCE);
    for (byte b : bytes) {
      Check.holds("signs are 1 to 127", b > 0);
    }
    String source = new String(bytes, StandardCharsets.US_ASCII);
    String code = source.replaceAll("(?s)/\\*.*?\\*/", " ").replaceAll("//[^\n]*", " ");
    words(code);
    names(code);
    methods(source);
    Check.end();
  }

  private static void words(String code) {
    String[] barred = {"throw", "throws", "try", "catch", "finally", "synchronized", "assert", "package", "equals",
      "hashCode", "toString", "Object", "Thread", "Random", "System\\.(?!arraycopy)", "new \\w+\\(\\) *\\{", "::", "->",
      "protected", "Exact", "yield", "var", "String\\.", "\\+ *\"", "\" *\\+", "double", "float", "while *\\(true"};
    for (String word : barred) {
      Matcher found = Pattern.compile(word.matches("\\w+") ? "\\b" + word + "\\b" : word).matcher(code);
      Check.holds("without " + word, !found.find());
    }
    Matcher imports = Pattern.compile("import ([^;]*);").matcher(code);
    while (imports.find()) {
      Check.holds("import " + imports.group(1), imports.group(1).equals("java.util.Arrays"));
    }
    Matcher classes = Pattern.compile("\\b(?:class|enum|interface|record) \\w+").matcher(code);
    int many = 0;
    while (classes.find()) {
      many++;
    }
    Check.holds("some twelve classes, here " + many, many <= 12);
  }

  /** No private method, and none of a class inside, bears the name of a public one. */
  private static void names(String code) {
    Set<String> open = new HashSet<>();
    Matcher publicOnes = Pattern.compile("public (?:int|long) (\\w+)\\(").matcher(code);
    while (publicOnes.find()) {
      open.add(publicOnes.group(1));
    }
    Check.due("public methods", open.size(), 50);
    Matcher others = Pattern.compile("\n +(?!public|return|new|else)(?:private )?(?:static )?\\w+ (\\w+)\\([^;]*\\{").matcher(code);
    int many = 0;
    while (others.find()) {
      many++;
      Check.holds(others.group(1) + " is no public name", !open.contains(others.group(1)));
    }
    Check.holds("methods were seen", many > 40);
  }

  private static void methods(String source) {
    String[] lines = source.split("\n");
    List<Integer> starts = new ArrayList<>();
    for (int i = 0; i < lines.length; i++) {
      boolean isMethod = lines[i].matches("( {2}| {4})\\w[^=;]*\\([^=;]*\\) \\{") && !lines[i].contains("class ");
      if (isMethod) {
        starts.add(i);
        String inside = lines[i].substring(lines[i].indexOf('(') + 1, lines[i].indexOf(')'));
        Check.holds("at most seven parameters: " + lines[i], inside.split(",").length <= 7);
        int end = i;
        String indent = lines[i].substring(0, lines[i].indexOf(lines[i].trim()));
        while (!lines[end].equals(indent + "}")) {
          end++;
        }
        Check.holds("at most sixty lines: " + lines[i], end - i <= 60);
      }
    }
    Check.holds("methods were seen", starts.size() > 100);
  }
}
