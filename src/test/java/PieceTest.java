/** Promise 8: piece. */
public final class PieceTest {
  private static final long UNTOUCHED = -5;

  public static void main(String[] args) {
    Check.holds("Promise 8: The signs from place from to before to", PieceTest::placesBoundThePiece);
    Check.holds("Promise 8: (none of them if these are the same)", PieceTest::samePlacesHaveNoDigit);
    Check.holds("Promise 8: are read as a long (way 1)", PieceTest::rangeOfLongs);
    Check.holds("Promise 8: or int (0)", PieceTest::rangeOfInts);
    Check.holds("Promise 8: of a base", PieceTest::digitsOfTheBase);
    Check.holds("Promise 8: a + or - before the digits or not", PieceTest::oneSignInFront);
    Check.holds("Promise 8: THE NUMBER as for read", PieceTest::numberStaysIfNoneIsRead);
    Check.holds("Promise 8: REFUSED for another way", PieceTest::otherWaysAreRefused);
    Check.holds("Promise 8: REFUSED for another base", PieceTest::otherBasesAreRefused);
    Check.holds("Promise 8: REFUSED for from below 0", PieceTest::fromBelowZeroIsRefused);
    Check.holds("Promise 8: REFUSED for from above to", PieceTest::fromAboveToIsRefused);
    Check.holds("Promise 8: REFUSED for to above the text's end", PieceTest::toAboveTheEndIsRefused);
    Check.finish();
  }

  private static void answers(String text, int way, int from, int to, int base, int kind, long n) {
    String call = "piece(" + way + ", " + from + ", " + to + ", " + base + ") of \"" + text + "\"";
    NumberScribe scribe = Check.holding(text, UNTOUCHED);
    Check.due(call, scribe.piece(way, from, to, base), kind);
    Check.due("number() after " + call, scribe.number(), n);
    Check.dueText(call, scribe, text);
  }

  private static void reads(String text, int way, int from, int to, int base, long number) {
    answers(text, way, from, to, base, Check.READ, number);
  }

  private static void fails(String text, int way, int from, int to, int base) {
    answers(text, way, from, to, base, Check.NOT_A_NUMBER, UNTOUCHED);
  }

  private static void refuses(String text, int way, int from, int to, int base) {
    answers(text, way, from, to, base, Check.REFUSED, UNTOUCHED);
  }

  private static void refusesBoth(String text, int from, int to) {
    refuses(text, 0, from, to, 10);
    refuses(text, 1, from, to, 10);
  }

  private static void placesBoundThePiece() {
    String full = "9".repeat(79) + "7";
    for (int way = 0; way <= 1; way++) {
      reads("12345", way, 0, 5, 10, 12345);
      reads("12345", way, 0, 1, 10, 1);
      reads("12345", way, 4, 5, 10, 5);
      reads("12345", way, 1, 4, 10, 234);
      reads("?ff?", way, 1, 3, 16, 255);
      fails("?ff?", way, 0, 3, 16);
      fails("?ff?", way, 1, 4, 16);
      reads(full, way, 0, 1, 10, 9);
      reads(full, way, 79, 80, 10, 7);
      reads("0".repeat(80), way, 0, 80, 10, 0);
    }
  }

  private static void samePlacesHaveNoDigit() {
    for (int way = 0; way <= 1; way++) {
      for (int place = 0; place <= 3; place++) {
        fails("123", way, place, place, 10);
        fails("-+-", way, place, place, 10);
      }
      fails("", way, 0, 0, 10);
      fails("1".repeat(80), way, 80, 80, 10);
    }
  }

  private static void rangeOfLongs() {
    reads("[2147483648]", 1, 1, 11, 10, 2147483648L);
    reads("[9223372036854775807]", 1, 1, 20, 10, Long.MAX_VALUE);
    fails("[9223372036854775808]", 1, 1, 20, 10);
    reads("[+9223372036854775807]", 1, 1, 21, 10, Long.MAX_VALUE);
    fails("[+9223372036854775808]", 1, 1, 21, 10);
    reads("[-9223372036854775808]", 1, 1, 21, 10, Long.MIN_VALUE);
    fails("[-9223372036854775809]", 1, 1, 21, 10);
    reads("1".repeat(80), 1, 17, 80, 2, Long.MAX_VALUE);
    fails("1".repeat(80), 1, 16, 80, 2);
    fails("z".repeat(80), 1, 0, 80, 36);
    fails("[18446744073709551617]", 1, 1, 21, 10);
  }

  private static void rangeOfInts() {
    reads("[2147483647]", 0, 1, 11, 10, Integer.MAX_VALUE);
    fails("[2147483648]", 0, 1, 11, 10);
    reads("[+2147483647]", 0, 1, 12, 10, Integer.MAX_VALUE);
    fails("[+2147483648]", 0, 1, 12, 10);
    reads("[-2147483648]", 0, 1, 12, 10, Integer.MIN_VALUE);
    fails("[-2147483649]", 0, 1, 12, 10);
    fails("[ffffffff]", 0, 1, 9, 16);
    fails("[4294967297]", 0, 1, 11, 10);
    reads("1".repeat(80), 0, 49, 80, 2, Integer.MAX_VALUE);
    fails("1".repeat(80), 0, 48, 80, 2);
    fails("z".repeat(80), 0, 0, 80, 36);
  }

  private static void digitsOfTheBase() {
    String digits = "0123456789abcdefghijklmnopqrstuvwxyz";
    for (int way = 0; way <= 1; way++) {
      for (int base = 2; base <= 36; base++) {
        String text = "?1" + digits.charAt(base - 1) + "?";
        reads(text, way, 1, 3, base, 2 * base - 1);
        reads(text.toUpperCase(), way, 1, 3, base, 2 * base - 1);
        if (base > 2) {
          fails(text, way, 1, 3, base - 1);
        }
      }
      fails("1{", way, 0, 2, 36);
      fails("1@", way, 0, 2, 36);
    }
  }

  private static void oneSignInFront() {
    for (int way = 0; way <= 1; way++) {
      reads("5-12+7", way, 1, 4, 10, -12);
      reads("5-12+7", way, 2, 4, 10, 12);
      reads("5-12+7", way, 4, 6, 10, 7);
      reads("5-0", way, 1, 3, 10, 0);
      fails("5-12+7", way, 0, 3, 10);
      fails("5-12+7", way, 1, 2, 10);
      fails("5-12+7", way, 4, 5, 10);
      fails("5-12+7", way, 2, 5, 10);
      fails("--5", way, 0, 3, 10);
      reads("--5", way, 1, 3, 10, -5);
      fails("+-5", way, 0, 3, 10);
      fails("-+5", way, 0, 3, 10);
      fails("++5", way, 0, 3, 10);
    }
  }

  private static void numberStaysIfNoneIsRead() {
    NumberScribe scribe = Check.holding("12?");
    Check.due("piece(0, 0, 2, 10)", scribe.piece(0, 0, 2, 10), Check.READ);
    Check.due("number() of it", scribe.number(), 12);
    Check.due("piece(0, 0, 0, 10)", scribe.piece(0, 0, 0, 10), Check.NOT_A_NUMBER);
    Check.due("number() after no sign", scribe.number(), 12);
    Check.due("piece(1, 0, 3, 10)", scribe.piece(1, 0, 3, 10), Check.NOT_A_NUMBER);
    Check.due("number() after no digit", scribe.number(), 12);
    Check.due("piece(0, 0, 4, 10)", scribe.piece(0, 0, 4, 10), Check.REFUSED);
    Check.due("number() after a refused piece", scribe.number(), 12);
    Check.due("piece(1, 1, 2, 10)", scribe.piece(1, 1, 2, 10), Check.READ);
    Check.due("number() of the next", scribe.number(), 2);
  }

  private static void otherWaysAreRefused() {
    int[] ways = {-1, 2, 3, 4, Integer.MIN_VALUE, Integer.MAX_VALUE};
    for (int way : ways) {
      refuses("123", way, 0, 2, 10);
      refuses("123", way, 1, 1, 10);
      refuses("???", way, 0, 3, 10);
    }
  }

  private static void otherBasesAreRefused() {
    for (int base : Check.OTHER_BASES) {
      for (int way = 0; way <= 1; way++) {
        refuses("000", way, 0, 2, base);
        refuses("123", way, 1, 1, base);
        refuses("???", way, 0, 3, base);
      }
    }
  }

  private static void fromBelowZeroIsRefused() {
    refusesBoth("123", -1, 2);
    refusesBoth("123", -1, 3);
    refusesBoth("123", -1, 0);
    refusesBoth("123", -1, -1);
    refusesBoth("", -1, 0);
    refusesBoth("123", Integer.MIN_VALUE, 2);
    refusesBoth("123", Integer.MIN_VALUE, Integer.MIN_VALUE);
  }

  private static void fromAboveToIsRefused() {
    refusesBoth("123", 1, 0);
    refusesBoth("123", 2, 1);
    refusesBoth("123", 3, 2);
    refusesBoth("123", 3, 0);
    refusesBoth("123", 4, 3);
    refusesBoth("", 1, 0);
    refusesBoth("123", 0, -1);
    refusesBoth("123", Integer.MAX_VALUE, 3);
    refusesBoth("123", Integer.MAX_VALUE, Integer.MIN_VALUE);
  }

  private static void toAboveTheEndIsRefused() {
    refusesBoth("123", 0, 4);
    refusesBoth("123", 2, 4);
    refusesBoth("123", 3, 4);
    refusesBoth("123", 4, 4);
    refusesBoth("", 0, 1);
    refusesBoth("", 1, 1);
    refusesBoth("123", 0, 80);
    refusesBoth("123", 80, 81);
    refusesBoth("123", 0, Integer.MAX_VALUE);
    refusesBoth("1".repeat(80), 79, 81);
    refusesBoth("1".repeat(80), 81, 81);
    NumberScribe scribe = Check.holding("123");
    scribe.write(0, 4, 10);
    Check.due("piece behind a shorter text", scribe.piece(0, 0, 2, 10), Check.REFUSED);
    scribe.wipe();
    Check.due("piece behind no text", scribe.piece(0, 0, 1, 10), Check.REFUSED);
  }
}
