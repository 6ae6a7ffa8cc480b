/** Promises 5 and 6: write and based. */
public final class WriteTest {
  private static final long INT_MIN = Integer.MIN_VALUE;

  public static void main(String[] args) {
    Check.holds("Terms: u(v): (below 0: 2^32, 2^64 more)", WriteTest::belowZeroIsMore);
    Check.holds("Terms: DIGITS of a base (2 to 36)", WriteTest::basesFromTwoTo36);
    Check.holds("Terms: 0 to 9, then letters (written small)", WriteTest::everyDigitIsSmall);
    Check.holds("Promise 5: THE TEXT becomes", WriteTest::textIsReplaced);
    Check.holds("Promise 5: way 0: the int v in a base", WriteTest::intsWithSign);
    Check.holds("Promise 5: - before it below 0", WriteTest::minusBelowZeroAlone);
    Check.holds("Promise 5: 1: the long v likewise", WriteTest::longsWithSign);
    Check.holds("Promise 5: 2: u of the int v", WriteTest::intsWithoutSign);
    Check.holds("Promise 5: 3: u of the long v in a base", WriteTest::longsWithoutSign);
    Check.holds("Promise 5: how many signs", WriteTest::longestAndShortestAreCounted);
    Check.holds("Promise 5: REFUSED for another way", WriteTest::otherWaysAreRefused);
    Check.holds("Promise 5: REFUSED for another base", WriteTest::otherBasesAreRefused);
    Check.holds("Promise 5: (THE TEXT stays then)", WriteTest::refusedWriteLeavesText);
    Check.holds("Promise 5: (The int is v's lowest 32 bits.)", WriteTest::highBitsDoNotCount);
    Check.holds("Promise 6: way 0: 2 of an int, 1: 8, 2: 16", WriteTest::basedOfInts);
    Check.holds("Promise 6: 3: 2 of a long, 4: 8, 5: 16", WriteTest::basedOfLongs);
    Check.holds("Promise 6: REFUSED for another way", WriteTest::otherWaysOfBasedAreRefused);
    Check.holds("Promise 6: (THE TEXT stays then)", WriteTest::refusedBasedLeavesText);
    Check.finish();
  }

  private static void written(int way, long v, int base, String want) {
    String call = "write(" + way + ", " + v + ", " + base + ")";
    NumberScribe scribe = Check.holding("before");
    Check.due(call, scribe.write(way, v, base), want.length());
    Check.dueText(call, scribe, want);
  }

  private static void basedIs(int way, long v, String want) {
    String call = "based(" + way + ", " + v + ")";
    NumberScribe scribe = Check.holding("before");
    Check.due(call, scribe.based(way, v), want.length());
    Check.dueText(call, scribe, want);
  }

  private static void belowZeroIsMore() {
    written(2, Integer.MAX_VALUE, 10, "2147483647");
    written(2, INT_MIN, 10, "2147483648");
    written(2, -1, 10, "4294967295");
    written(3, Long.MAX_VALUE, 10, "9223372036854775807");
    written(3, Long.MIN_VALUE, 10, "9223372036854775808");
    written(3, -1, 10, "18446744073709551615");
  }

  private static void basesFromTwoTo36() {
    for (int base = 2; base <= 36; base++) {
      for (int way = 0; way <= 3; way++) {
        written(way, base, base, "10");
        written(way, base * base, base, "100");
      }
    }
  }

  private static void everyDigitIsSmall() {
    String digits = "0123456789abcdefghijklmnopqrstuvwxyz";
    for (int base = 2; base <= 36; base++) {
      for (int digit = 0; digit < base; digit++) {
        String one = digits.substring(digit, digit + 1);
        for (int way = 0; way <= 3; way++) {
          written(way, digit, base, one);
        }
        written(1, base + digit, base, "1" + one);
      }
    }
  }

  private static void textIsReplaced() {
    NumberScribe scribe = new NumberScribe();
    Check.due("write into none", scribe.write(0, 7, 10), 1);
    Check.dueText("write into none", scribe, "7");
    Check.due("write of more signs", scribe.write(1, -1234, 10), 5);
    Check.dueText("write of more signs", scribe, "-1234");
    Check.due("write of fewer signs", scribe.write(2, 12, 10), 2);
    Check.dueText("write of fewer signs", scribe, "12");
    NumberScribe full = Check.holding("x".repeat(80));
    Check.due("write over 80 signs", full.write(3, 5, 10), 1);
    Check.dueText("write over 80 signs", full, "5");
    NumberScribe fullToo = Check.holding("x".repeat(80));
    Check.due("based over 80 signs", fullToo.based(0, 5), 3);
    Check.dueText("based over 80 signs", fullToo, "101");
  }

  private static void intsWithSign() {
    written(0, 0, 10, "0");
    written(0, 12345, 10, "12345");
    written(0, -12345, 10, "-12345");
    written(0, 255, 16, "ff");
    written(0, -255, 16, "-ff");
    written(0, Integer.MAX_VALUE, 10, "2147483647");
    written(0, INT_MIN, 10, "-2147483648");
    written(0, Integer.MAX_VALUE, 2, "1".repeat(31));
    written(0, INT_MIN, 2, "-1" + "0".repeat(31));
    written(0, Integer.MAX_VALUE, 36, "zik0zj");
    written(0, INT_MIN, 36, "-zik0zk");
  }

  private static void minusBelowZeroAlone() {
    for (int base = 2; base <= 36; base++) {
      for (int way = 0; way <= 1; way++) {
        written(way, -1, base, "-1");
        written(way, 0, base, "0");
        written(way, 1, base, "1");
      }
      for (int way = 2; way <= 3; way++) {
        NumberScribe scribe = new NumberScribe();
        scribe.write(way, -1, base);
        Check.due("a - of write(" + way + ", -1, " + base + ")", scribe.octet(0) == '-' ? 1 : 0, 0);
      }
    }
  }

  private static void longsWithSign() {
    written(1, 0, 2, "0");
    written(1, 1L << 32, 10, "4294967296");
    written(1, 0xFFFFFFFFL, 10, "4294967295");
    written(1, Long.MAX_VALUE, 10, "9223372036854775807");
    written(1, Long.MIN_VALUE, 10, "-9223372036854775808");
    written(1, Long.MAX_VALUE, 2, "1".repeat(63));
    written(1, Long.MIN_VALUE, 2, "-1" + "0".repeat(63));
    written(1, Long.MAX_VALUE, 36, "1y2p0ij32e8e7");
    written(1, Long.MIN_VALUE, 36, "-1y2p0ij32e8e8");
    written(1, -36, 36, "-10");
  }

  private static void intsWithoutSign() {
    written(2, 0, 10, "0");
    written(2, -1, 10, "4294967295");
    written(2, -1, 2, "1".repeat(32));
    written(2, INT_MIN, 16, "80000000");
    written(2, -1, 36, "1z141z3");
  }

  private static void longsWithoutSign() {
    written(3, 0, 36, "0");
    written(3, 1L << 32, 10, "4294967296");
    written(3, -1, 10, "18446744073709551615");
    written(3, -1, 2, "1".repeat(64));
    written(3, -1, 16, "f".repeat(16));
    written(3, -1, 36, "3w5e11264sgsf");
    written(3, Long.MIN_VALUE, 2, "1" + "0".repeat(63));
    written(3, Long.MAX_VALUE, 8, "7".repeat(21));
  }

  private static void longestAndShortestAreCounted() {
    NumberScribe scribe = new NumberScribe();
    Check.due("signs of 0", scribe.write(0, 0, 2), 1);
    Check.due("signs of the least int in base 2", scribe.write(0, INT_MIN, 2), 33);
    Check.due("signs of the least long in base 2", scribe.write(1, Long.MIN_VALUE, 2), 65);
    Check.due("octet(64) of it", scribe.octet(64), '0');
    Check.due("octet(65) of it", scribe.octet(65), Check.REFUSED);
    Check.due("signs of the greatest u of an int", scribe.write(2, -1, 2), 32);
    Check.due("signs of the greatest u of a long", scribe.write(3, -1, 2), 64);
    Check.due("signs of the greatest u in base 36", scribe.write(3, -1, 36), 13);
  }

  private static void otherWaysAreRefused() {
    int[] ways = {-1, 4, 5, Integer.MIN_VALUE, Integer.MAX_VALUE};
    for (int way : ways) {
      NumberScribe scribe = Check.holding("5");
      Check.due("write(" + way + ", 6, 10)", scribe.write(way, 6, 10), Check.REFUSED);
      Check.due("write(" + way + ", 6, 1)", scribe.write(way, 6, 1), Check.REFUSED);
    }
  }

  private static void otherBasesAreRefused() {
    for (int base : Check.OTHER_BASES) {
      NumberScribe scribe = Check.holding("5");
      for (int way = 0; way <= 3; way++) {
        Check.due("write(" + way + ", 6, " + base + ")", scribe.write(way, 6, base), Check.REFUSED);
        Check.due("write(" + way + ", 0, " + base + ")", scribe.write(way, 0, base), Check.REFUSED);
      }
    }
  }

  private static void refusedWriteLeavesText() {
    String[] texts = {"", "stays", "x".repeat(80)};
    for (String text : texts) {
      NumberScribe scribe = Check.holding(text);
      scribe.write(-1, 6, 10);
      Check.dueText("write(-1, 6, 10)", scribe, text);
      scribe.write(4, 6, 10);
      Check.dueText("write(4, 6, 10)", scribe, text);
      scribe.write(0, -6, 1);
      Check.dueText("write(0, -6, 1)", scribe, text);
      scribe.write(3, 6, 37);
      Check.dueText("write(3, 6, 37)", scribe, text);
      Check.due("wipe() after refused writes", scribe.wipe(), text.length());
    }
  }

  private static void highBitsDoNotCount() {
    written(0, 1L << 32, 10, "0");
    written(0, (1L << 32) + 7, 10, "7");
    written(0, 1L << 31, 10, "-2147483648");
    written(0, 0xFFFFFFFFL, 10, "-1");
    written(0, Long.MIN_VALUE, 10, "0");
    written(0, Long.MIN_VALUE + 7, 10, "7");
    written(0, Long.MAX_VALUE, 10, "-1");
    written(0, -0xFFFFFFFFL, 10, "1");
    written(0, 0x123456789ABCDEF0L, 10, "-1698898192");
    written(2, 1L << 32, 10, "0");
    written(2, 0x1_0000_0005L, 10, "5");
    written(2, Long.MAX_VALUE, 10, "4294967295");
    written(2, Long.MIN_VALUE, 10, "0");
    for (int way = 0; way <= 2; way++) {
      basedIs(way, 1L << 32, "0");
      basedIs(way, Long.MIN_VALUE + 1, "1");
    }
  }

  private static void basedOfInts() {
    basedIs(0, 0, "0");
    basedIs(0, 10, "1010");
    basedIs(0, -1, "1".repeat(32));
    basedIs(0, INT_MIN, "1" + "0".repeat(31));
    basedIs(1, 0, "0");
    basedIs(1, 64, "100");
    basedIs(1, -1, "37777777777");
    basedIs(1, INT_MIN, "20000000000");
    basedIs(2, 0, "0");
    basedIs(2, 0xCAFE, "cafe");
    basedIs(2, -1, "ffffffff");
    basedIs(2, INT_MIN, "80000000");
  }

  private static void basedOfLongs() {
    basedIs(3, 0, "0");
    basedIs(3, -1, "1".repeat(64));
    basedIs(3, 1L << 32, "1" + "0".repeat(32));
    basedIs(3, Long.MIN_VALUE, "1" + "0".repeat(63));
    basedIs(4, 0, "0");
    basedIs(4, -1, "1" + "7".repeat(21));
    basedIs(4, 1L << 33, "1" + "0".repeat(11));
    basedIs(4, Long.MIN_VALUE, "1" + "0".repeat(21));
    basedIs(5, 0, "0");
    basedIs(5, -1, "f".repeat(16));
    basedIs(5, 0x1_0000_000AL, "10000000a");
    basedIs(5, Long.MIN_VALUE, "8" + "0".repeat(15));
  }

  private static void otherWaysOfBasedAreRefused() {
    int[] ways = {-1, -2, -3, 6, 7, 8, Integer.MIN_VALUE, Integer.MAX_VALUE};
    for (int way : ways) {
      NumberScribe scribe = Check.holding("5");
      Check.due("based(" + way + ", 6)", scribe.based(way, 6), Check.REFUSED);
    }
  }

  private static void refusedBasedLeavesText() {
    String[] texts = {"", "stays", "x".repeat(80)};
    for (String text : texts) {
      NumberScribe scribe = Check.holding(text);
      scribe.based(-1, 6);
      Check.dueText("based(-1, 6)", scribe, text);
      scribe.based(6, 6);
      Check.dueText("based(6, 6)", scribe, text);
    }
  }
}
