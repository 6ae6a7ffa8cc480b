/** Promises 5 and 6: write and based. */
public final class WriteTest {
  private static final long INT_MIN = Integer.MIN_VALUE;

  public static void main(String[] args) {
    intsWithSign();
    longsWithSign();
    intsWithoutSign();
    longsWithoutSign();
    everyDigitIsSmall();
    otherWaysAndBasesAreRefused();
    basedOfInts();
    basedOfLongs();
    otherWaysOfBasedAreRefused();
    whatIsWrittenTakesMoreSigns();
    Check.finish();
  }

  private static void written(int way, long v, int base, String want) {
    String call = "write(" + way + ", " + v + ", " + base + ")";
    NumberScribe scribe = Check.holding("before");
    Check.due(call, scribe.write(way, v, base), want.length());
    Check.dueText(call, scribe, want);
    Check.due("number() after " + call, scribe.number(), 0);
  }

  private static void intsWithSign() {
    written(0, 0, 10, "0");
    written(0, 12345, 10, "12345");
    written(0, -12345, 10, "-12345");
    written(0, 255, 16, "ff");
    written(0, -255, 16, "-ff");
    written(0, Integer.MAX_VALUE, 10, "2147483647");
    written(0, INT_MIN, 10, "-2147483648");
    written(0, INT_MIN, 2, "-1" + "0".repeat(31));
    written(0, INT_MIN, 36, "-zik0zk");
    written(0, -1, 2, "-1");
    written(0, 1L << 32, 10, "0");
    written(0, (1L << 32) + 7, 10, "7");
    written(0, 0xFFFFFFFFL, 10, "-1");
    written(0, Long.MIN_VALUE, 10, "0");
    written(0, 0x123456789ABCDEF0L, 10, "-1698898192");
  }

  private static void longsWithSign() {
    written(1, 0, 2, "0");
    written(1, 1L << 32, 10, "4294967296");
    written(1, 0xFFFFFFFFL, 10, "4294967295");
    written(1, Long.MAX_VALUE, 10, "9223372036854775807");
    written(1, Long.MIN_VALUE, 10, "-9223372036854775808");
    written(1, Long.MIN_VALUE, 2, "-1" + "0".repeat(63));
    written(1, Long.MIN_VALUE, 36, "-1y2p0ij32e8e8");
    written(1, Long.MAX_VALUE, 36, "1y2p0ij32e8e7");
    written(1, -1, 36, "-1");
    written(1, -36, 36, "-10");
  }

  private static void intsWithoutSign() {
    written(2, 0, 10, "0");
    written(2, -1, 10, "4294967295");
    written(2, -1, 2, "1".repeat(32));
    written(2, INT_MIN, 16, "80000000");
    written(2, -1, 36, "1z141z3");
    written(2, 1L << 32, 10, "0");
    written(2, 0x1_0000_0005L, 10, "5");
  }

  private static void longsWithoutSign() {
    written(3, 0, 36, "0");
    written(3, -1, 10, "18446744073709551615");
    written(3, -1, 2, "1".repeat(64));
    written(3, -1, 16, "f".repeat(16));
    written(3, -1, 36, "3w5e11264sgsf");
    written(3, Long.MIN_VALUE, 10, "9223372036854775808");
    written(3, Long.MAX_VALUE, 8, "7".repeat(21));
  }

  private static void everyDigitIsSmall() {
    String digits = "0123456789abcdefghijklmnopqrstuvwxyz";
    for (int base = 2; base <= 36; base++) {
      for (int digit = 0; digit < base; digit++) {
        String one = digits.substring(digit, digit + 1);
        for (int way = 0; way <= 3; way++) {
          written(way, digit, base, one);
        }
        written(1, base + digit, base, "1" + one);
      }
    }
  }

  private static void otherWaysAndBasesAreRefused() {
    int[] ways = {-1, 4, 5, Integer.MIN_VALUE, Integer.MAX_VALUE};
    int[] bases = {1, 37, 0, -1, -10, 256 + 10, Integer.MIN_VALUE, Integer.MAX_VALUE};
    NumberScribe scribe = Check.holding("stays");
    for (int way : ways) {
      Check.due("write(" + way + ", 5, 10)", scribe.write(way, 5, 10), Check.REFUSED);
      Check.due("write(" + way + ", 5, 1)", scribe.write(way, 5, 1), Check.REFUSED);
    }
    for (int base : bases) {
      for (int way = 0; way <= 3; way++) {
        String call = "write(" + way + ", 5, " + base + ")";
        Check.due(call, scribe.write(way, 5, base), Check.REFUSED);
      }
    }
    Check.dueText("refused writes", scribe, "stays");
  }

  private static void basedIs(int way, long v, String want) {
    String call = "based(" + way + ", " + v + ")";
    NumberScribe scribe = Check.holding("before");
    Check.due(call, scribe.based(way, v), want.length());
    Check.dueText(call, scribe, want);
  }

  private static void basedOfInts() {
    basedIs(0, 0, "0");
    basedIs(0, 10, "1010");
    basedIs(0, -1, "1".repeat(32));
    basedIs(0, 1L << 32, "0");
    basedIs(1, 0, "0");
    basedIs(1, 64, "100");
    basedIs(1, -1, "37777777777");
    basedIs(1, (1L << 32) + 9, "11");
    basedIs(2, 0, "0");
    basedIs(2, 0xCAFE, "cafe");
    basedIs(2, -1, "ffffffff");
    basedIs(2, Long.MAX_VALUE, "ffffffff");
  }

  private static void basedOfLongs() {
    basedIs(3, 0, "0");
    basedIs(3, -1, "1".repeat(64));
    basedIs(3, 1L << 32, "1" + "0".repeat(32));
    basedIs(4, 0, "0");
    basedIs(4, -1, "1" + "7".repeat(21));
    basedIs(4, 1L << 33, "1" + "0".repeat(11));
    basedIs(5, 0, "0");
    basedIs(5, -1, "f".repeat(16));
    basedIs(5, Long.MIN_VALUE, "8" + "0".repeat(15));
    basedIs(5, 0x1_0000_000AL, "10000000a");
  }

  private static void otherWaysOfBasedAreRefused() {
    int[] ways = {-1, -2, -3, 6, 7, 8, Integer.MIN_VALUE, Integer.MAX_VALUE};
    NumberScribe scribe = Check.holding("stays");
    for (int way : ways) {
      Check.due("based(" + way + ", 5)", scribe.based(way, 5), Check.REFUSED);
    }
    Check.dueText("refused calls of based", scribe, "stays");
  }

  private static void whatIsWrittenTakesMoreSigns() {
    NumberScribe scribe = Check.holding("x".repeat(80));
    Check.due("write over 80 signs", scribe.write(0, -12, 10), 3);
    Check.due("type behind it", scribe.type('4'), 4);
    Check.dueText("type behind it", scribe, "-124");
    Check.due("read of it", scribe.read(0, 10), Check.READ);
    Check.due("number() of it", scribe.number(), -124);
    Check.due("wipe() of it", scribe.wipe(), 4);
  }
}
