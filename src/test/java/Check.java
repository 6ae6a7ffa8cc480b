/** What the tests share: it runs a sentence's test, counts wrong answers, fills and reads THE TEXT. */
final class Check {
  static final int REFUSED = -1;
  static final int READ = 0;
  static final int NOT_A_NUMBER = 1;

  /** What is no base: the nearest on both sides, and far ones. */
  static final int[] OTHER_BASES = {
    1, 37, 0, -1, -2, -36, -10, 256 + 10, Integer.MIN_VALUE, Integer.MAX_VALUE
  };

  private static final int MOST_SIGNS = 80;
  private static final int MOST_TOLD = 20;

  private static int asked = 0;
  private static int wrong = 0;
  private static int told = 0;

  private Check() {}

  /** The test of one sentence of the document, whose words are told behind what it finds wrong. */
  static void holds(String sentence, Runnable test) {
    int askedBefore = asked;
    int wrongBefore = wrong;
    told = 0;
    try {
      test.run();
    } catch (RuntimeException thrown) {
      tellWrong("a call threw " + thrown);
    }
    if (asked == askedBefore) {
      tellWrong("nothing was asked");
    }
    if (wrong != wrongBefore) {
      System.out.println("does not hold: " + sentence);
    }
  }

  static void due(String call, long got, long want) {
    asked++;
    if (got != want) {
      tellWrong(call + " answered " + got + ", due is " + want);
    }
  }

  static void dueText(String call, NumberScribe scribe, String want) {
    asked++;
    String got = textOf(scribe);
    if (!got.equals(want)) {
      tellWrong(call + " left the text \"" + got + "\", due is \"" + want + "\"");
    }
  }

  static NumberScribe holding(String text) {
    NumberScribe scribe = new NumberScribe();
    type(scribe, text);
    return scribe;
  }

  /** One that holds the text and has read number before, so that a change of it can be seen. */
  static NumberScribe holding(String text, long number) {
    NumberScribe scribe = new NumberScribe();
    scribe.write(1, number, 10);
    due("read(1, 10) of " + number, scribe.read(1, 10), READ);
    due("number() of " + number, scribe.number(), number);
    scribe.wipe();
    type(scribe, text);
    return scribe;
  }

  private static void type(NumberScribe scribe, String text) {
    for (int k = 0; k < text.length(); k++) {
      due("type(" + (int) text.charAt(k) + ")", scribe.type(text.charAt(k)), k + 1);
    }
  }

  private static String textOf(NumberScribe scribe) {
    StringBuilder text = new StringBuilder();
    for (int k = 0; k <= MOST_SIGNS; k++) {
      int sign = scribe.octet(k);
      if (sign == REFUSED) {
        break;
      }
      text.append((char) sign);
    }
    return text.toString();
  }

  /** Of a sentence the first few wrong answers are told, without signs that would upset a log. */
  private static void tellWrong(String what) {
    wrong++;
    if (told < MOST_TOLD) {
      told++;
      System.out.println(what.replaceAll("[^ -~]", "."));
    }
  }

  static void finish() {
    if (asked == 0 || wrong != 0) {
      System.out.println(wrong + " of " + asked + " answers are not as due");
      System.exit(1);
    }
  }
}
