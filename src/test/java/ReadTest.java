/** Promise 7, and what the terms say of DIGITS and KIND: read. */
public final class ReadTest {
  private static final long UNTOUCHED = 77;

  public static void main(String[] args) {
    Check.holds("Terms: DIGITS of a base (2 to 36)", ReadTest::basesFromTwoTo36);
    Check.holds("Terms: 0 to 9, then letters, small or not", ReadTest::digitsOfEveryBase);
    Check.holds("Terms: not a number (none of the base)", ReadTest::otherSignsAreNoDigits);
    Check.holds("Terms: not a number (no digit)", ReadTest::noDigitIsNoNumber);
    Check.holds("Terms: not a number (or out of range)", ReadTest::farOutOfRange);
    Check.holds("Promise 7: way 0: as an int", ReadTest::rangeOfInts);
    Check.holds("Promise 7: 1: a long", ReadTest::rangeOfLongs);
    Check.holds("Promise 7: 2: u of an int", ReadTest::rangeOfIntsWithoutSign);
    Check.holds("Promise 7: 3: u of a long", ReadTest::rangeOfLongsWithoutSign);
    Check.holds("Promise 7: in a base", ReadTest::leadingZeros);
    Check.holds("Promise 7: THE TEXT stays", ReadTest::textStays);
    Check.holds("Promise 7: one + or - may stand before the digits", ReadTest::oneSignInFront);
    Check.holds("Promise 7: of which there is one at least", ReadTest::oneDigitAtLeast);
    Check.holds("Promise 7: (before those of u no -)", ReadTest::noMinusBeforeDigitsOfU);
    Check.holds("Promise 7: (of ways 0 and 2 the int with those bits)", ReadTest::intAsLongWithSign);
    Check.holds("Promise 7: it stays if there is none", ReadTest::numberStaysIfNoneIsRead);
    Check.holds("Promise 7: REFUSED for another way", ReadTest::otherWaysAreRefused);
    Check.holds("Promise 7: REFUSED for another base", ReadTest::otherBasesAreRefused);
    Check.finish();
  }

  private static void answers(int way, int base, String text, int kind, long number) {
    String call = "read(" + way + ", " + base + ") of \"" + text + "\"";
    NumberScribe scribe = Check.holding(text, UNTOUCHED);
    Check.due(call, scribe.read(way, base), kind);
    Check.due("number() after " + call, scribe.number(), number);
    Check.dueText(call, scribe, text);
  }

  private static void reads(int way, int base, String text, long number) {
    answers(way, base, text, Check.READ, number);
  }

  private static void fails(int way, int base, String text) {
    answers(way, base, text, Check.NOT_A_NUMBER, UNTOUCHED);
  }

  private static void readsInEveryWay(int base, String text, long number) {
    for (int way = 0; way <= 3; way++) {
      reads(way, base, text, number);
    }
  }

  private static void failsInEveryWay(int base, String text) {
    for (int way = 0; way <= 3; way++) {
      fails(way, base, text);
    }
  }

  private static void basesFromTwoTo36() {
    for (int base = 2; base <= 36; base++) {
      readsInEveryWay(base, "0", 0);
      readsInEveryWay(base, "1", 1);
      readsInEveryWay(base, "10", base);
      readsInEveryWay(base, "100", base * base);
    }
    readsInEveryWay(2, "101", 5);
    readsInEveryWay(10, "12345", 12345);
    readsInEveryWay(16, "Ff", 255);
    readsInEveryWay(36, "zZ", 35 * 36 + 35);
  }

  private static void digitsOfEveryBase() {
    String small = "0123456789abcdefghijklmnopqrstuvwxyz";
    String large = small.toUpperCase();
    for (int base = 2; base <= 36; base++) {
      for (int digit = 0; digit < base; digit++) {
        readsInEveryWay(base, small.substring(digit, digit + 1), digit);
        readsInEveryWay(base, "1" + small.charAt(digit), base + digit);
        readsInEveryWay(base, "1" + large.charAt(digit), base + digit);
      }
    }
  }

  private static void otherSignsAreNoDigits() {
    String digits = "0123456789abcdefghijklmnopqrstuvwxyz";
    for (int base = 2; base <= 36; base++) {
      for (int sign = 0; sign <= 127; sign++) {
        if (digits.substring(0, base).indexOf(Character.toLowerCase(sign)) < 0) {
          failsInEveryWay(base, "1" + (char) sign);
          failsInEveryWay(base, (char) sign + "?");
        }
      }
    }
    String[] wrong = {"0x10", "#10", "1.0", "1_000", " 1", "1 ", "1L", "\0001", "1\177"};
    for (String text : wrong) {
      failsInEveryWay(10, text);
      failsInEveryWay(16, text);
    }
  }

  private static void noDigitIsNoNumber() {
    String[] none = {"", "+", "-", "?"};
    for (String text : none) {
      for (int base = 2; base <= 36; base++) {
        failsInEveryWay(base, text);
      }
    }
  }

  private static void farOutOfRange() {
    failsInEveryWay(36, "z".repeat(80));
    failsInEveryWay(10, "9".repeat(80));
    failsInEveryWay(2, "1".repeat(80));
    failsInEveryWay(10, "-" + "9".repeat(79));
    // 2^64 + 1, 2^65 and 2^79, which as wrapped longs would be 1 and 0.
    failsInEveryWay(10, "18446744073709551617");
    failsInEveryWay(10, "-18446744073709551617");
    failsInEveryWay(2, "1" + "0".repeat(65));
    failsInEveryWay(2, "1" + "0".repeat(79));
    failsInEveryWay(16, "1" + "0".repeat(16) + "1");
  }

  private static void rangeOfInts() {
    reads(0, 10, "2147483647", Integer.MAX_VALUE);
    reads(0, 10, "+2147483647", Integer.MAX_VALUE);
    fails(0, 10, "2147483648");
    fails(0, 10, "+2147483648");
    reads(0, 10, "-2147483648", Integer.MIN_VALUE);
    fails(0, 10, "-2147483649");
    fails(0, 10, "4294967295");
    fails(0, 10, "4294967296");
    fails(0, 16, "ffffffff");
    reads(0, 36, "zik0zj", Integer.MAX_VALUE);
    fails(0, 36, "zik0zk");
    reads(0, 36, "-zik0zk", Integer.MIN_VALUE);
    fails(0, 36, "-zik0zl");
    reads(0, 2, "1".repeat(31), Integer.MAX_VALUE);
    fails(0, 2, "1" + "0".repeat(31));
    reads(0, 2, "-1" + "0".repeat(31), Integer.MIN_VALUE);
    fails(0, 2, "-1" + "0".repeat(30) + "1");
  }

  private static void rangeOfLongs() {
    reads(1, 10, "4294967296", 1L << 32);
    reads(1, 10, "9223372036854775807", Long.MAX_VALUE);
    reads(1, 10, "+9223372036854775807", Long.MAX_VALUE);
    fails(1, 10, "9223372036854775808");
    fails(1, 10, "+9223372036854775808");
    reads(1, 10, "-9223372036854775808", Long.MIN_VALUE);
    fails(1, 10, "-9223372036854775809");
    fails(1, 10, "18446744073709551615");
    fails(1, 10, "-18446744073709551615");
    reads(1, 36, "1y2p0ij32e8e7", Long.MAX_VALUE);
    fails(1, 36, "1y2p0ij32e8e8");
    reads(1, 36, "-1Y2P0IJ32E8E8", Long.MIN_VALUE);
    fails(1, 36, "-1y2p0ij32e8e9");
    reads(1, 2, "1".repeat(63), Long.MAX_VALUE);
    fails(1, 2, "1" + "0".repeat(63));
    reads(1, 2, "-1" + "0".repeat(63), Long.MIN_VALUE);
    fails(1, 2, "-1" + "0".repeat(62) + "1");
  }

  private static void rangeOfIntsWithoutSign() {
    reads(2, 10, "0", 0);
    reads(2, 10, "2147483647", Integer.MAX_VALUE);
    reads(2, 10, "2147483648", Integer.MIN_VALUE);
    reads(2, 10, "4294967295", -1);
    reads(2, 10, "+4294967295", -1);
    fails(2, 10, "4294967296");
    fails(2, 10, "+4294967296");
    reads(2, 16, "ffffffff", -1);
    fails(2, 16, "100000000");
    reads(2, 36, "1z141z3", -1);
    fails(2, 36, "1z141z4");
    reads(2, 2, "1".repeat(32), -1);
    fails(2, 2, "1" + "0".repeat(32));
  }

  private static void rangeOfLongsWithoutSign() {
    reads(3, 10, "0", 0);
    reads(3, 10, "9223372036854775807", Long.MAX_VALUE);
    reads(3, 10, "9223372036854775808", Long.MIN_VALUE);
    reads(3, 10, "18446744073709551615", -1);
    reads(3, 10, "+18446744073709551615", -1);
    fails(3, 10, "18446744073709551616");
    fails(3, 10, "+18446744073709551616");
    fails(3, 10, "18446744073709551620");
    reads(3, 16, "f".repeat(16), -1);
    fails(3, 16, "1" + "0".repeat(16));
    reads(3, 36, "3w5e11264sgsf", -1);
    fails(3, 36, "3w5e11264sgsg");
    reads(3, 2, "1".repeat(64), -1);
    fails(3, 2, "1" + "0".repeat(64));
  }

  private static void leadingZeros() {
    readsInEveryWay(10, "0".repeat(80), 0);
    readsInEveryWay(10, "+" + "0".repeat(78) + "9", 9);
    readsInEveryWay(2, "0".repeat(79) + "1", 1);
    reads(0, 10, "-" + "0".repeat(69) + "2147483648", Integer.MIN_VALUE);
    fails(0, 10, "-" + "0".repeat(69) + "2147483649");
    reads(1, 10, "0".repeat(61) + "9223372036854775807", Long.MAX_VALUE);
    fails(1, 10, "0".repeat(61) + "9223372036854775808");
    reads(2, 10, "0".repeat(70) + "4294967295", -1);
    fails(2, 10, "0".repeat(70) + "4294967296");
    reads(3, 10, "0".repeat(60) + "18446744073709551615", -1);
    fails(3, 10, "0".repeat(60) + "18446744073709551616");
  }

  private static void textStays() {
    String[] texts = {"", "+", "-12", "+0012", "zZ", "12?", "?", "1".repeat(80), "x".repeat(80)};
    for (String text : texts) {
      for (int way = -1; way <= 4; way++) {
        NumberScribe scribe = Check.holding(text);
        scribe.read(way, 10);
        Check.dueText("read(" + way + ", 10)", scribe, text);
        scribe.read(way, 36);
        Check.dueText("read(" + way + ", 36)", scribe, text);
        scribe.read(way, 37);
        Check.due("wipe() after read(" + way + ", 37)", scribe.wipe(), text.length());
      }
    }
  }

  private static void oneSignInFront() {
    readsInEveryWay(10, "12", 12);
    readsInEveryWay(10, "+12", 12);
    readsInEveryWay(10, "+0", 0);
    for (int way = 0; way <= 1; way++) {
      reads(way, 10, "-12", -12);
      reads(way, 36, "-z", -35);
      reads(way, 10, "-0", 0);
    }
    String[] wrong = {
      "++1", "--1", "+-1", "-+1", "1+", "1-", "1-2", "1+2", "+1-", "+ 1", "- 1", " +1", " -1", "0-1", "0+1"
    };
    for (String text : wrong) {
      failsInEveryWay(10, text);
      failsInEveryWay(36, text);
    }
  }

  private static void oneDigitAtLeast() {
    String[] none = {"", "+", "-", "++", "--", "+-", "-+"};
    for (String text : none) {
      failsInEveryWay(2, text);
      failsInEveryWay(10, text);
      failsInEveryWay(36, text);
    }
    readsInEveryWay(10, "7", 7);
    readsInEveryWay(10, "+7", 7);
  }

  private static void noMinusBeforeDigitsOfU() {
    for (int way = 2; way <= 3; way++) {
      fails(way, 10, "-1");
      fails(way, 10, "-0");
      fails(way, 10, "-00");
      fails(way, 10, "-");
      fails(way, 36, "-zz");
      fails(way, 10, "-2147483648");
      fails(way, 10, "-9223372036854775808");
    }
  }

  private static void intAsLongWithSign() {
    reads(0, 10, "-1", -1);
    reads(0, 16, "-80000000", Integer.MIN_VALUE);
    reads(2, 16, "7fffffff", 0x7FFFFFFFL);
    reads(2, 16, "80000000", -0x80000000L);
    reads(2, 16, "fffffffe", -2);
    reads(2, 16, "FFFFFFFF", -1);
    reads(1, 16, "80000000", 0x80000000L);
    reads(1, 16, "ffffffff", 0xFFFFFFFFL);
    reads(3, 16, "80000000", 0x80000000L);
    reads(3, 16, "ffffffff", 0xFFFFFFFFL);
  }

  private static void numberStaysIfNoneIsRead() {
    String[] wrong = {"", "-", "12?", "z", "1".repeat(40), "-" + "1".repeat(40)};
    long[] before = {Long.MIN_VALUE, -1, 1, Long.MAX_VALUE};
    for (String text : wrong) {
      for (long number : before) {
        NumberScribe scribe = Check.holding(text, number);
        for (int way = 0; way <= 3; way++) {
          String call = "read(" + way + ", 10) of \"" + text + "\"";
          Check.due(call, scribe.read(way, 10), Check.NOT_A_NUMBER);
          Check.due("number() after " + call, scribe.number(), number);
        }
      }
    }
  }

  private static void otherWaysAreRefused() {
    int[] ways = {-1, 4, 5, Integer.MIN_VALUE, Integer.MAX_VALUE};
    for (int way : ways) {
      answers(way, 10, "1", Check.REFUSED, UNTOUCHED);
      answers(way, 10, "", Check.REFUSED, UNTOUCHED);
      answers(way, 37, "1", Check.REFUSED, UNTOUCHED);
    }
  }

  private static void otherBasesAreRefused() {
    for (int base : Check.OTHER_BASES) {
      for (int way = 0; way <= 3; way++) {
        answers(way, base, "0", Check.REFUSED, UNTOUCHED);
        answers(way, base, "", Check.REFUSED, UNTOUCHED);
        answers(way, base, "?", Check.REFUSED, UNTOUCHED);
        answers(way, base, "-", Check.REFUSED, UNTOUCHED);
      }
    }
  }
}
