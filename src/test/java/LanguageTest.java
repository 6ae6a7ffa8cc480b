import java.io.IOException;
import java.lang.reflect.Field;
import java.lang.reflect.Modifier;
import java.nio.file.Files;
import java.nio.file.Path;
import java.util.regex.Matcher;
import java.util.regex.Pattern;

/** Those rules of LANGUAGE.md that can be seen in the program's own words. */
public final class LanguageTest {
  private static final Pattern COMMENT = Pattern.compile("(?s)/\\*.*?\\*/|//[^\n]*");
  private static final Pattern LIBRARY = Pattern.compile("\\b(?:Integer|Long|Math)\\.\\w+ ?\\(?");
  private static final Pattern OTHER_LIBRARY = Pattern.compile(
      "\\b(?:package|Character|Object)\\b|\\bSystem\\.(?!arraycopy\\()"
          + "|\\bjavax?\\.(?!util\\.(?:ArrayList|List|Arrays|Iterator);)");
  private static final Pattern RULED_OUT =
      Pattern.compile("\\b(?:throws?|try|catch|finally|synchronized|assert)\\b|::|\\bstatic \\{");

  private static String program;

  public static void main(String[] args) throws IOException {
    String source = Files.readString(Path.of("src/main/java/NumberScribe.java"));
    program = COMMENT.matcher(source).replaceAll("");
    Check.holds("LANGUAGE.md 4: the static functions of Integer, Long and Math", LanguageTest::functionsAlone);
    Check.holds("LANGUAGE.md 4: only what stands here", () -> holdsNone(OTHER_LIBRARY));
    Check.holds("LANGUAGE.md 5: Static fields are final", LanguageTest::staticFieldsAreFinal);
    Check.holds("LANGUAGE.md 2, 5, 6: No throw, try, catch and their like", () -> holdsNone(RULED_OUT));
    Check.finish();
  }

  private static void functionsAlone() {
    Matcher use = LIBRARY.matcher(program);
    while (use.find()) {
      boolean function = use.group().endsWith("(") && !use.group().contains("Exact");
      Check.due(use.group() + " as a function of the rule", function ? 1 : 0, 1);
    }
  }

  private static void holdsNone(Pattern pattern) {
    Matcher use = pattern.matcher(program);
    boolean found = use.find();
    Check.due("uses of " + (found ? use.group() : "what is ruled out"), found ? 1 : 0, 0);
  }

  private static void staticFieldsAreFinal() {
    for (Field field : NumberScribe.class.getDeclaredFields()) {
      int modifiers = field.getModifiers();
      boolean changeable = Modifier.isStatic(modifiers) && !Modifier.isFinal(modifiers);
      Check.due("static " + field.getName() + " that is not final", changeable ? 1 : 0, 0);
    }
  }
}
