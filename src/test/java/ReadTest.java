/** Promises 7 and 10: read, and THE NUMBER that it leaves. */
public final class ReadTest {
  private static final long UNTOUCHED = 77;

  public static void main(String[] args) {
    ordinaryNumbers();
    rangeOfInts();
    rangeOfLongs();
    rangeOfIntsWithoutSign();
    rangeOfLongsWithoutSign();
    signsInFront();
    digitsOfEveryBase();
    leadingZeros();
    longTextsThatWrap();
    otherWaysAndBasesAreRefused();
    Check.finish();
  }

  /** A number is read before, so that a failed reading can be seen to leave it. */
  private static NumberScribe readyWith(String text) {
    NumberScribe scribe = Check.holding("77");
    Check.due("read(1, 10) of 77", scribe.read(1, 10), Check.READ);
    scribe.wipe();
    for (int k = 0; k < text.length(); k++) {
      scribe.type(text.charAt(k));
    }
    return scribe;
  }

  private static void answers(int way, int base, String text, int kind, long number) {
    String call = "read(" + way + ", " + base + ") of \"" + text + "\"";
    NumberScribe scribe = readyWith(text);
    Check.due(call, scribe.read(way, base), kind);
    Check.due("number() after " + call, scribe.number(), number);
    Check.due("number() once more after " + call, scribe.number(), number);
    Check.dueText(call, scribe, text);
  }

  private static void reads(int way, int base, String text, long number) {
    answers(way, base, text, Check.READ, number);
  }

  private static void fails(int way, int base, String text) {
    answers(way, base, text, Check.NOT_A_NUMBER, UNTOUCHED);
  }

  private static void failsInEveryWay(int base, String text) {
    for (int way = 0; way <= 3; way++) {
      fails(way, base, text);
    }
  }

  private static void ordinaryNumbers() {
    for (int way = 0; way <= 3; way++) {
      reads(way, 10, "0", 0);
      reads(way, 10, "12345", 12345);
      reads(way, 10, "+12345", 12345);
      reads(way, 16, "Ff", 255);
      reads(way, 36, "zZ", 35 * 36 + 35);
      reads(way, 2, "101", 5);
    }
    reads(0, 10, "-12345", -12345);
    reads(1, 10, "-12345", -12345);
    reads(0, 10, "-0", 0);
    reads(1, 10, "-0", 0);
  }

  private static void rangeOfInts() {
    reads(0, 10, "2147483647", Integer.MAX_VALUE);
    reads(0, 10, "+2147483647", Integer.MAX_VALUE);
    fails(0, 10, "2147483648");
    fails(0, 10, "+2147483648");
    reads(0, 10, "-2147483648", Integer.MIN_VALUE);
    fails(0, 10, "-2147483649");
    fails(0, 10, "4294967295");
    fails(0, 10, "4294967296");
    fails(0, 16, "ffffffff");
    reads(0, 36, "zik0zj", Integer.MAX_VALUE);
    fails(0, 36, "zik0zk");
    reads(0, 36, "-zik0zk", Integer.MIN_VALUE);
    fails(0, 36, "-zik0zl");
    reads(0, 2, "1".repeat(31), Integer.MAX_VALUE);
    fails(0, 2, "1" + "0".repeat(31));
    reads(0, 2, "-1" + "0".repeat(31), Integer.MIN_VALUE);
    fails(0, 2, "-1" + "0".repeat(30) + "1");
  }

  private static void rangeOfLongs() {
    reads(1, 10, "4294967296", 1L << 32);
    reads(1, 10, "9223372036854775807", Long.MAX_VALUE);
    fails(1, 10, "9223372036854775808");
    reads(1, 10, "-9223372036854775808", Long.MIN_VALUE);
    fails(1, 10, "-9223372036854775809");
    fails(1, 10, "18446744073709551615");
    fails(1, 10, "18446744073709551617");
    fails(1, 10, "-18446744073709551615");
    reads(1, 36, "1y2p0ij32e8e7", Long.MAX_VALUE);
    fails(1, 36, "1y2p0ij32e8e8");
    reads(1, 36, "-1Y2P0IJ32E8E8", Long.MIN_VALUE);
    fails(1, 36, "-1y2p0ij32e8e9");
    reads(1, 2, "1".repeat(63), Long.MAX_VALUE);
    fails(1, 2, "1" + "0".repeat(63));
    reads(1, 2, "-1" + "0".repeat(63), Long.MIN_VALUE);
  }

  private static void rangeOfIntsWithoutSign() {
    reads(2, 10, "2147483647", Integer.MAX_VALUE);
    reads(2, 10, "2147483648", Integer.MIN_VALUE);
    reads(2, 10, "4294967295", -1);
    reads(2, 10, "+4294967295", -1);
    fails(2, 10, "4294967296");
    reads(2, 16, "ffffffff", -1);
    reads(2, 16, "FFFFFFFE", -2);
    fails(2, 16, "100000000");
    reads(2, 36, "1z141z3", -1);
    fails(2, 36, "1z141z4");
    reads(2, 2, "1".repeat(32), -1);
    fails(2, 2, "1".repeat(33));
  }

  private static void rangeOfLongsWithoutSign() {
    reads(3, 10, "4294967295", 4294967295L);
    reads(3, 10, "9223372036854775808", Long.MIN_VALUE);
    reads(3, 10, "18446744073709551615", -1);
    reads(3, 10, "+18446744073709551615", -1);
    fails(3, 10, "18446744073709551616");
    fails(3, 10, "18446744073709551620");
    reads(3, 16, "f".repeat(16), -1);
    fails(3, 16, "1" + "0".repeat(16));
    reads(3, 36, "3w5e11264sgsf", -1);
    fails(3, 36, "3w5e11264sgsg");
    reads(3, 2, "1".repeat(64), -1);
    fails(3, 2, "1".repeat(65));
  }

  private static void signsInFront() {
    String[] wrong = {
      "", "+", "-", "++1", "--1", "+-1", "-+1", "1+", "1-", "1-2", " 1", "1 ", "1.0", "1_000", "\0001",
      "+ 1", "0x10", "#10", "1\177"
    };
    for (String text : wrong) {
      failsInEveryWay(10, text);
      failsInEveryWay(16, text);
    }
    fails(2, 10, "-1");
    fails(3, 10, "-1");
    fails(2, 10, "-0");
    fails(3, 10, "-0");
    fails(2, 10, "-");
    fails(3, 36, "-zz");
  }

  private static void digitsOfEveryBase() {
    String small = "0123456789abcdefghijklmnopqrstuvwxyz";
    String large = small.toUpperCase();
    for (int base = 2; base <= 36; base++) {
      for (int sign = 0; sign <= 127; sign++) {
        int digit = Math.max(small.indexOf(sign), large.indexOf(sign));
        String text = "1" + (char) sign;
        for (int way = 0; way <= 3; way++) {
          if (digit >= 0 && digit < base) {
            reads(way, base, text, base + digit);
          } else {
            fails(way, base, text);
          }
        }
      }
    }
  }

  private static void leadingZeros() {
    for (int way = 0; way <= 3; way++) {
      reads(way, 10, "0".repeat(80), 0);
      reads(way, 10, "+" + "0".repeat(78) + "9", 9);
      reads(way, 2, "0".repeat(79) + "1", 1);
    }
    reads(0, 10, "-" + "0".repeat(69) + "2147483648", Integer.MIN_VALUE);
    reads(2, 10, "0".repeat(70) + "4294967295", -1);
    fails(2, 10, "0".repeat(70) + "4294967296");
    reads(3, 10, "0".repeat(60) + "18446744073709551615", -1);
    fails(3, 10, "0".repeat(60) + "18446744073709551616");
  }

  private static void longTextsThatWrap() {
    failsInEveryWay(36, "z".repeat(80));
    failsInEveryWay(10, "9".repeat(80));
    failsInEveryWay(2, "1".repeat(80));
    // 2^64 + 1, 2^65 and 2^79, which as wrapped longs would be 1 and 0.
    failsInEveryWay(10, "18446744073709551617");
    failsInEveryWay(2, "1" + "0".repeat(65));
    failsInEveryWay(2, "1" + "0".repeat(79));
    failsInEveryWay(16, "1" + "0".repeat(16) + "1");
  }

  private static void otherWaysAndBasesAreRefused() {
    int[] ways = {-1, 4, 5, Integer.MIN_VALUE, Integer.MAX_VALUE};
    int[] bases = {1, 37, 0, -1, -10, 256 + 10, Integer.MIN_VALUE, Integer.MAX_VALUE};
    for (int way : ways) {
      answers(way, 10, "1", Check.REFUSED, UNTOUCHED);
      answers(way, 10, "", Check.REFUSED, UNTOUCHED);
    }
    for (int base : bases) {
      for (int way = 0; way <= 3; way++) {
        answers(way, base, "1", Check.REFUSED, UNTOUCHED);
        answers(way, base, "?", Check.REFUSED, UNTOUCHED);
      }
    }
    reads(0, 2, "1", 1);
    reads(0, 36, "1", 1);
  }
}
