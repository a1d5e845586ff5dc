import java.io.IOException;
import java.lang.reflect.Constructor;
import java.lang.reflect.Field;
import java.lang.reflect.Method;
import java.lang.reflect.Modifier;
import java.nio.file.Files;
import java.nio.file.Path;
import java.util.HashSet;
import java.util.Set;
import java.util.regex.Matcher;
import java.util.regex.Pattern;

/** "The public face" of the document: all that it names is there, and nothing else can be seen from outside. */
public final class FaceTest {
  private static final String DOCUMENT = read("../shared/DOC.md");
  private static final String SOURCE = read("src/main/java/CoarserOrders.java");
  private static final Class<?> CLASS = CoarserOrders.class;
  private static final int SEEN_FROM_OUTSIDE = Modifier.PUBLIC | Modifier.PROTECTED;

  public static void main(String[] args) throws ReflectiveOperationException {
    String face = DOCUMENT.substring(DOCUMENT.indexOf("public final class"), DOCUMENT.indexOf("\n## Terms"));
    theClass();
    constants(face);
    methods(face);
    classesInside();
    headings();
    Check.end();
  }

  private static String read(String path) {
    try {
      return Files.readString(Path.of(path));
    } catch (IOException e) {
      throw new IllegalStateException(e);
    }
  }

  private static void theClass() {
    Check.due("public final", CLASS.getModifiers(), Modifier.PUBLIC | Modifier.FINAL);
    Check.holds("without a package", CLASS.getPackageName().isEmpty());
    Check.holds("under no class", CLASS.getSuperclass() == Object.class);
    Check.due("of no interfaces", CLASS.getInterfaces().length, 0);
    Constructor<?>[] made = CLASS.getDeclaredConstructors();
    Check.due("one constructor", made.length, 1);
    Check.due("it is public", made[0].getModifiers(), Modifier.PUBLIC);
    Check.due("it takes nothing", made[0].getParameterCount(), 0);
  }

  private static void constants(String face) throws ReflectiveOperationException {
    Matcher line = Pattern.compile("public static final int ([^;]*);").matcher(face);
    Check.holds("the face has constants", line.find());
    Set<String> told = new HashSet<>();
    Matcher each = Pattern.compile("(\\w+) = (-?\\d+)").matcher(line.group(1));
    while (each.find()) {
      told.add(each.group(1));
      Field field = CLASS.getDeclaredField(each.group(1));
      Check.due(field.getName(), field.getModifiers(), Modifier.PUBLIC | Modifier.STATIC | Modifier.FINAL);
      Check.holds(field.getName() + " is an int", field.getType() == int.class);
      Check.due(field.getName(), field.getInt(null), Integer.parseInt(each.group(2)));
    }
    Check.due("four constants", told.size(), 4);
    for (Field field : CLASS.getDeclaredFields()) {
      boolean isRight = Modifier.isPrivate(field.getModifiers()) || told.contains(field.getName());
      Check.holds("private, or told: " + field.getName(), isRight);
      boolean isConstant = !Modifier.isStatic(field.getModifiers()) || Modifier.isFinal(field.getModifiers());
      Check.holds("final, if static: " + field.getName(), isConstant);
    }
  }

  private static void methods(String face) throws ReflectiveOperationException {
    Matcher each = Pattern.compile("public (int|long) (\\w+)\\(([^)]*)\\);").matcher(face);
    Set<String> told = new HashSet<>();
    while (each.find()) {
      told.add(each.group(2));
      Method method = CLASS.getDeclaredMethod(each.group(2), types(each.group(3)));
      Check.due(each.group(2) + " is public", method.getModifiers(), Modifier.PUBLIC);
      Check.holds(each.group(2) + " answers as told", method.getReturnType() == type(each.group(1)));
      Check.holds("the source has the face's words: " + each.group(),
          SOURCE.contains(each.group().replace(";", " {")));
      boolean hasPromise = DOCUMENT.contains("\n`" + each.group().substring("public ".length()).replace(";", "") + "`: ");
      Check.holds("a promise tells of " + each.group(), hasPromise);
    }
    Check.due("calls", told.size(), 50);
    int open = 0;
    for (Method method : CLASS.getDeclaredMethods()) {
      open += Modifier.isPrivate(method.getModifiers()) ? 0 : 1;
    }
    Check.due("no more can be seen from outside", open, told.size());
  }

  private static Class<?>[] types(String parameters) {
    if (parameters.isEmpty()) {
      return new Class<?>[0];
    }
    String[] each = parameters.split(", ");
    Class<?>[] types = new Class<?>[each.length];
    for (int i = 0; i < each.length; i++) {
      types[i] = type(each[i].split(" ")[0]);
    }
    return types;
  }

  private static Class<?> type(String name) {
    return name.equals("long") ? long.class : int.class;
  }

  private static void classesInside() {
    for (Class<?> inside : CLASS.getDeclaredClasses()) {
      int modifiers = inside.getModifiers();
      boolean isHidden = Modifier.isStatic(modifiers) && (modifiers & SEEN_FROM_OUTSIDE) == 0;
      Check.holds("static, and not seen from outside: " + inside.getName(), isHidden);
      for (Field field : inside.getDeclaredFields()) {
        boolean isConstant = !Modifier.isStatic(field.getModifiers()) || Modifier.isFinal(field.getModifiers());
        Check.holds("final, if static: " + inside.getName() + " " + field.getName(), isConstant);
      }
    }
  }

  /** The headings stand in the source as the document has them, each ahead of its calls. */
  private static void headings() {
    Matcher each = Pattern.compile("\nAhead of the calls ([^\n]*) the interface says: (---- [^\n]*)\\.\n").matcher(DOCUMENT + "\n");
    int at = 0, headings = 0, calls = 0;
    while (each.find()) {
      headings++;
      at = behind(at, "// " + each.group(2) + "\n");
      Matcher call = Pattern.compile("`(\\w+)`").matcher(each.group(1));
      while (call.find()) {
        calls++;
        Matcher there = Pattern.compile("\n  public (?:int|long) " + call.group(1) + "\\(").matcher(SOURCE);
        boolean isBehind = there.find(at);
        Check.holds("in this order: " + call.group(1), isBehind);
        at = isBehind ? there.end() : at;
      }
    }
    Check.due("headings", headings, 7);
    Check.due("calls under headings", calls, 50);
  }

  private static int behind(int from, String words) {
    int at = SOURCE.indexOf(words, from);
    Check.holds("in this order: " + words, at >= 0);
    return Math.max(from, at);
  }
}
