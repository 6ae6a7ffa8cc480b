/** What the tests share: it counts the wrong answers and fills and reads THE TEXT. */
final class Check {
  static final int REFUSED = -1;
  static final int READ = 0;
  static final int NOT_A_NUMBER = 1;

  private static int asked = 0;
  private static int wrong = 0;

  private Check() {}

  static void due(String call, long got, long want) {
    asked++;
    if (got != want) {
      wrong++;
      System.out.println(call + " answered " + got + ", due is " + want);
    }
  }

  static void dueText(String call, NumberScribe scribe, String want) {
    asked++;
    String got = textOf(scribe);
    if (!got.equals(want)) {
      wrong++;
      System.out.println(call + " left the text \"" + got + "\", due is \"" + want + "\"");
    }
  }

  static NumberScribe holding(String text) {
    NumberScribe scribe = new NumberScribe();
    for (int k = 0; k < text.length(); k++) {
      due("type(" + (int) text.charAt(k) + ")", scribe.type(text.charAt(k)), k + 1);
    }
    return scribe;
  }

  static String textOf(NumberScribe scribe) {
    StringBuilder text = new StringBuilder();
    for (int k = 0; k <= 80 && scribe.octet(k) != REFUSED; k++) {
      text.append((char) scribe.octet(k));
    }
    return text.toString();
  }

  static void finish() {
    if (asked == 0 || wrong != 0) {
      System.out.println(wrong + " of " + asked + " answers are not as due");
      System.exit(1);
    }
  }
}
