import java.io.File;
import java.io.IOException;
import java.lang.reflect.Method;
import java.nio.file.Files;
import java.nio.file.Path;
import java.util.List;
import java.util.regex.Matcher;
import java.util.regex.Pattern;
import java.util.stream.Collectors;
import java.util.stream.Stream;

/** README.md: its calls answer what it says, its commands work as they stand there, it names each test. */
public final class ReadmeTest {
  private static final Pattern CALL = Pattern.compile("x\\.(\\w+)\\(([^)]*)\\); +// (-?\\d+)(?:: .*)?");

  public static void main(String[] args) throws Exception {
    String readme = Files.readString(Path.of("README.md"));
    calls(block(readme, "java"));
    commands(block(readme, "sh"));
    testsNamed(readme);
    Check.end();
  }

  /** The lines of all blocks in that tongue. */
  private static List<String> block(String readme, String tongue) {
    Matcher found = Pattern.compile("```" + tongue + "\n(.*?)```", Pattern.DOTALL).matcher(readme);
    List<String> lines = found.results().flatMap(each -> each.group(1).lines()).collect(Collectors.toList());
    Check.holds("README.md shows some " + tongue, !lines.isEmpty());
    return lines;
  }

  private static void calls(List<String> lines) throws ReflectiveOperationException {
    CoarserOrders x = null;
    for (String line : lines) {
      if (line.startsWith("CoarserOrders x = new CoarserOrders();")) {
        x = new CoarserOrders();
        continue;
      }
      Matcher call = CALL.matcher(line);
      boolean isCall = call.matches();
      Check.holds("a call with its answer: " + line, isCall);
      if (isCall) {
        Check.due(line, answer(x, call.group(1), call.group(2)), Long.parseLong(call.group(3)));
      }
    }
  }

  private static long answer(CoarserOrders x, String name, String given) throws ReflectiveOperationException {
    String[] each = given.isEmpty() ? new String[0] : given.split(", ");
    for (Method method : CoarserOrders.class.getMethods()) {
      if (method.getName().equals(name) && method.getParameterCount() == each.length) {
        Object[] numbers = new Object[each.length];
        for (int i = 0; i < each.length; i++) {
          boolean isLong = method.getParameterTypes()[i] == long.class;
          numbers[i] = isLong ? (Object) Long.decode(each[i].replace("L", "")) : (Object) Integer.decode(each[i]);
        }
        return ((Number) method.invoke(x, numbers)).longValue();
      }
    }
    throw new NoSuchMethodException(name);
  }

  /** In a copy, so that nothing is left behind here; but for .ci/run, which would run this test again. */
  private static void commands(List<String> lines) throws IOException, InterruptedException {
    Path copy = Files.createTempDirectory("readme");
    copyAll(Path.of("src"), copy);
    int others = 0;
    for (String line : lines) {
      if (line.equals("bash .ci/run")) {
        Check.holds(".ci/run can be run", Files.isExecutable(Path.of(".ci/run")));
        continue;
      }
      others++;
      Process ran = new ProcessBuilder("sh", "-c", line).directory(copy.toFile())
          .redirectErrorStream(true).redirectOutput(copy.resolve("said").toFile()).start();
      Check.due(line, ran.waitFor(), 0);
    }
    Check.holds("there are commands beside .ci/run", others > 0);
    removeAll(copy);
  }

  private static void copyAll(Path from, Path to) throws IOException {
    try (Stream<Path> all = Files.walk(from)) {
      for (Path each : all.collect(Collectors.toList())) {
        Files.copy(each, to.resolve(each.toString()));
      }
    }
  }

  private static void removeAll(Path from) throws IOException {
    try (Stream<Path> all = Files.walk(from)) {
      all.sorted((one, other) -> other.compareTo(one)).map(Path::toFile).forEach(File::delete);
    }
  }

  private static void testsNamed(String readme) {
    String[] files = new File("src/test/java").list();
    Check.holds("there are tests", files != null && files.length > 0);
    for (String file : files == null ? new String[0] : files) {
      boolean isNamed = !file.endsWith("Test.java") || readme.contains("`" + file.replace(".java", "") + "`");
      Check.holds("README.md names " + file, isNamed);
    }
    Matcher named = Pattern.compile("`(\\w+Test)`").matcher(readme);
    while (named.find()) {
      Check.holds("there is " + named.group(1), new File("src/test/java/" + named.group(1) + ".java").isFile());
    }
  }
}
