import java.io.IOException;
import java.lang.reflect.Method;
import java.lang.reflect.Modifier;
import java.nio.file.Files;
import java.nio.file.Path;
import java.util.List;
import java.util.regex.Matcher;
import java.util.regex.Pattern;

/** README.md: its example answers what it says there, and it tells of every call and every test. */
public final class ReadmeTest {
  private static final Pattern EXAMPLE = Pattern.compile("scribe\\.(\\w+)\\((.*)\\);\\s+// (-?\\d+)\\b.*");

  private static List<String> lines;

  public static void main(String[] args) throws IOException {
    lines = Files.readAllLines(Path.of("README.md"));
    Check.holds("README.md: the example's answers", ReadmeTest::exampleAnswersAsTold);
    Check.holds("README.md: every call of the public face, in the example", ReadmeTest::exampleHasEveryCall);
    Check.holds("README.md: every call of the public face, in a table", ReadmeTest::tableHasEveryCall);
    Check.holds("README.md: every test of the project", ReadmeTest::tableHasEveryTest);
    Check.finish();
  }

  private static void exampleAnswersAsTold() {
    NumberScribe scribe = new NumberScribe();
    for (String line : lines) {
      if (line.startsWith("scribe.")) {
        exampleAnswersAsTold(scribe, line);
      }
    }
  }

  private static void exampleAnswersAsTold(NumberScribe scribe, String line) {
    Matcher example = EXAMPLE.matcher(line);
    boolean matches = example.matches();
    Check.due("a call with its answer: " + line, matches ? 1 : 0, 1);
    if (matches) {
      Check.due(line, call(scribe, example.group(1), example.group(2)), Long.parseLong(example.group(3)));
    }
  }

  private static long call(NumberScribe scribe, String name, String arguments) {
    String[] words = arguments.isEmpty() ? new String[0] : arguments.split(", ");
    Method method = methodOf(name);
    Object[] values = new Object[words.length];
    for (int k = 0; k < words.length; k++) {
      long value = valueOf(words[k]);
      boolean isInt = method.getParameterTypes()[k] == int.class;
      values[k] = isInt ? (Object) (int) value : (Object) value;
    }
    try {
      return ((Number) method.invoke(scribe, values)).longValue();
    } catch (ReflectiveOperationException thrown) {
      throw new IllegalStateException(thrown);
    }
  }

  private static Method methodOf(String name) {
    for (Method method : NumberScribe.class.getDeclaredMethods()) {
      if (method.getName().equals(name)) {
        return method;
      }
    }
    throw new IllegalStateException("no method " + name);
  }

  private static long valueOf(String word) {
    return word.startsWith("'") ? word.charAt(1) : Long.decode(word.replace("L", ""));
  }

  private static void exampleHasEveryCall() {
    everyCallBegins("scribe.");
  }

  private static void tableHasEveryCall() {
    everyCallBegins("| `");
  }

  private static void everyCallBegins(String front) {
    for (Method method : NumberScribe.class.getDeclaredMethods()) {
      if (Modifier.isPublic(method.getModifiers())) {
        dueLine(front + method.getName() + "(");
      }
    }
  }

  private static void tableHasEveryTest() {
    String[] files = Path.of("src/test/java").toFile().list();
    for (String file : files) {
      if (file.endsWith("Test.java")) {
        dueLine("| `" + file.replace(".java", "") + "` |");
      }
    }
  }

  private static void dueLine(String front) {
    boolean told = lines.stream().anyMatch(line -> line.startsWith(front));
    Check.due("a line that begins " + front, told ? 1 : 0, 1);
  }
}
