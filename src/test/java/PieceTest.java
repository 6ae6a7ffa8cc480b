/** Promise 8: piece. */
public final class PieceTest {
  public static void main(String[] args) {
    piecesOfOneText();
    signsInFront();
    ranges();
    wrongPlacesAreRefused();
    otherWaysAndBasesAreRefused();
    Check.finish();
  }

  private static void answers(String text, int way, int from, int to, int base, int kind, long n) {
    String call = "piece(" + way + ", " + from + ", " + to + ", " + base + ") of \"" + text + "\"";
    NumberScribe scribe = Check.holding(text);
    Check.due(call, scribe.piece(way, from, to, base), kind);
    Check.due("number() after " + call, scribe.number(), n);
    Check.dueText(call, scribe, text);
  }

  private static void reads(String text, int way, int from, int to, int base, long number) {
    answers(text, way, from, to, base, Check.READ, number);
  }

  private static void fails(String text, int way, int from, int to, int base) {
    answers(text, way, from, to, base, Check.NOT_A_NUMBER, 0);
  }

  private static void refuses(String text, int way, int from, int to, int base) {
    answers(text, way, from, to, base, Check.REFUSED, 0);
  }

  private static void piecesOfOneText() {
    for (int way = 0; way <= 1; way++) {
      reads("12345", way, 0, 5, 10, 12345);
      reads("12345", way, 0, 1, 10, 1);
      reads("12345", way, 4, 5, 10, 5);
      reads("12345", way, 1, 4, 10, 234);
      reads("?ff?", way, 1, 3, 16, 255);
      reads("?Zz?", way, 1, 3, 36, 35 * 36 + 35);
      fails("?ff?", way, 0, 3, 16);
      fails("?ff?", way, 1, 4, 16);
      fails("12345", way, 0, 5, 5);
      reads("12345", way, 0, 4, 5, 194);
    }
  }

  private static void signsInFront() {
    for (int way = 0; way <= 1; way++) {
      reads("5-12+7", way, 1, 4, 10, -12);
      reads("5-12+7", way, 4, 6, 10, 7);
      reads("5-0", way, 1, 3, 10, 0);
      fails("5-12+7", way, 0, 3, 10);
      fails("5-12+7", way, 1, 2, 10);
      fails("5-12+7", way, 4, 5, 10);
      fails("5-12+7", way, 2, 5, 10);
      fails("--5", way, 0, 3, 10);
      reads("--5", way, 1, 3, 10, -5);
      fails("+-5", way, 0, 3, 10);
    }
  }

  private static void ranges() {
    reads("[2147483647]", 0, 1, 11, 10, Integer.MAX_VALUE);
    fails("[2147483648]", 0, 1, 11, 10);
    reads("[2147483648]", 1, 1, 11, 10, 2147483648L);
    reads("[-2147483648]", 0, 1, 12, 10, Integer.MIN_VALUE);
    fails("[-2147483649]", 0, 1, 12, 10);
    fails("[ffffffff]", 0, 1, 9, 16);
    reads("[9223372036854775807]", 1, 1, 20, 10, Long.MAX_VALUE);
    fails("[9223372036854775808]", 1, 1, 20, 10);
    reads("[-9223372036854775808]", 1, 1, 21, 10, Long.MIN_VALUE);
    fails("[-9223372036854775809]", 1, 1, 21, 10);
    reads("1".repeat(80), 1, 17, 80, 2, Long.MAX_VALUE);
    fails("1".repeat(80), 1, 16, 80, 2);
  }

  private static void wrongPlacesAreRefused() {
    for (int way = 0; way <= 1; way++) {
      for (int place = 0; place <= 3; place++) {
        fails("123", way, place, place, 10);
      }
      fails("", way, 0, 0, 10);
      refuses("123", way, -1, 2, 10);
      refuses("123", way, -1, -1, 10);
      refuses("123", way, 2, 1, 10);
      refuses("123", way, 0, 4, 10);
      refuses("123", way, 4, 4, 10);
      refuses("", way, 0, 1, 10);
      refuses("123", way, 80, 81, 10);
      refuses("123", way, Integer.MIN_VALUE, 2, 10);
      refuses("123", way, 0, Integer.MAX_VALUE, 10);
      refuses("123", way, Integer.MAX_VALUE, Integer.MIN_VALUE, 10);
      refuses("1".repeat(80), way, 79, 81, 10);
    }
    NumberScribe scribe = Check.holding("123");
    scribe.write(0, 4, 10);
    Check.due("piece behind a shorter text", scribe.piece(0, 0, 2, 10), Check.REFUSED);
  }

  private static void otherWaysAndBasesAreRefused() {
    int[] ways = {-1, 2, 3, 4, Integer.MIN_VALUE, Integer.MAX_VALUE};
    int[] bases = {1, 37, 0, -1, -10, Integer.MIN_VALUE, Integer.MAX_VALUE};
    for (int way : ways) {
      refuses("123", way, 0, 2, 10);
    }
    for (int base : bases) {
      refuses("123", 0, 0, 2, base);
      refuses("123", 1, 0, 2, base);
      refuses("123", 1, 1, 1, base);
    }
    NumberScribe scribe = Check.holding("12");
    Check.due("piece(0, 0, 2, 10)", scribe.piece(0, 0, 2, 10), Check.READ);
    Check.due("piece(2, 0, 1, 10)", scribe.piece(2, 0, 1, 10), Check.REFUSED);
    Check.due("piece(0, 0, 0, 10)", scribe.piece(0, 0, 0, 10), Check.NOT_A_NUMBER);
    Check.due("number() after them", scribe.number(), 12);
  }
}
