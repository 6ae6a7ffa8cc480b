/** Promise 9: decode. */
public final class DecodeTest {
  private static final long UNTOUCHED = 77;

  public static void main(String[] args) {
    Check.holds("Promise 9: THE TEXT is read as an int (way 0)", DecodeTest::rangeOfInts);
    Check.holds("Promise 9: or long (1)", DecodeTest::rangeOfLongs);
    Check.holds("Promise 9: a + or - or none in front", DecodeTest::oneSignInFront);
    Check.holds("Promise 9: 0x, 0X or # ahead of digits of base 16", DecodeTest::base16);
    Check.holds("Promise 9: 0 ahead of digits of base 8", DecodeTest::base8);
    Check.holds("Promise 9: else digits of base 10", DecodeTest::base10);
    Check.holds("Promise 9: (one digit at least)", DecodeTest::oneDigitAtLeast);
    Check.holds("Promise 9: (no sign among them)", DecodeTest::noSignAmongDigits);
    Check.holds("Promise 9: KIND (none of the base)", DecodeTest::otherSignsAreNoDigits);
    Check.holds("Promise 9: THE NUMBER as for read", DecodeTest::numberStaysIfNoneIsRead);
    Check.holds("Promise 9: REFUSED for another way", DecodeTest::otherWaysAreRefused);
    Check.finish();
  }

  private static void answers(int way, String text, int kind, long number) {
    String call = "decode(" + way + ") of \"" + text + "\"";
    NumberScribe scribe = Check.holding(text, UNTOUCHED);
    Check.due(call, scribe.decode(way), kind);
    Check.due("number() after " + call, scribe.number(), number);
    Check.dueText(call, scribe, text);
  }

  private static void reads(int way, String text, long number) {
    answers(way, text, Check.READ, number);
  }

  private static void fails(int way, String text) {
    answers(way, text, Check.NOT_A_NUMBER, UNTOUCHED);
  }

  private static void readsBoth(String text, long number) {
    reads(0, text, number);
    reads(1, text, number);
  }

  private static void failBoth(String... texts) {
    for (String text : texts) {
      fails(0, text);
      fails(1, text);
    }
  }

  private static void rangeOfInts() {
    reads(0, "2147483647", Integer.MAX_VALUE);
    fails(0, "2147483648");
    reads(0, "+2147483647", Integer.MAX_VALUE);
    fails(0, "+2147483648");
    reads(0, "-2147483648", Integer.MIN_VALUE);
    fails(0, "-2147483649");
    reads(0, "0x7fffffff", Integer.MAX_VALUE);
    fails(0, "0x80000000");
    reads(0, "-0x80000000", Integer.MIN_VALUE);
    fails(0, "-0x80000001");
    reads(0, "#7fffffff", Integer.MAX_VALUE);
    fails(0, "#ffffffff");
    reads(0, "017777777777", Integer.MAX_VALUE);
    fails(0, "020000000000");
    reads(0, "-020000000000", Integer.MIN_VALUE);
    fails(0, "-020000000001");
    fails(0, "#10000000000000001");
    fails(0, "4294967297");
  }

  private static void rangeOfLongs() {
    reads(1, "2147483648", 2147483648L);
    reads(1, "0xffffffff", 0xFFFFFFFFL);
    reads(1, "9223372036854775807", Long.MAX_VALUE);
    fails(1, "9223372036854775808");
    reads(1, "-9223372036854775808", Long.MIN_VALUE);
    fails(1, "-9223372036854775809");
    reads(1, "0X7FFFFFFFFFFFFFFF", Long.MAX_VALUE);
    fails(1, "0x8000000000000000");
    reads(1, "-#8000000000000000", Long.MIN_VALUE);
    fails(1, "-#8000000000000001");
    reads(1, "0" + "7".repeat(21), Long.MAX_VALUE);
    fails(1, "01" + "0".repeat(21));
    reads(1, "-01" + "0".repeat(21), Long.MIN_VALUE);
    fails(1, "-01" + "0".repeat(20) + "1");
    fails(1, "#" + "f".repeat(16));
    fails(1, "#10000000000000001");
    fails(1, "18446744073709551617");
    fails(1, "9".repeat(80));
  }

  private static void oneSignInFront() {
    String[] plain = {"89", "0", "017", "0x1f", "0X1F", "#1f"};
    long[] values = {89, 0, 15, 31, 31, 31};
    for (int k = 0; k < plain.length; k++) {
      readsBoth(plain[k], values[k]);
      readsBoth("+" + plain[k], values[k]);
      readsBoth("-" + plain[k], -values[k]);
      failBoth("++" + plain[k], "--" + plain[k], "+-" + plain[k], "-+" + plain[k], " -" + plain[k]);
    }
  }

  private static void base16() {
    String[] fronts = {"0x", "0X", "#"};
    for (String front : fronts) {
      readsBoth(front + "0", 0);
      readsBoth(front + "f", 15);
      readsBoth(front + "F", 15);
      readsBoth(front + "10", 16);
      readsBoth(front + "010", 16);
      readsBoth(front + "00", 0);
      readsBoth(front + "0".repeat(77) + "a", 10);
      failBoth(front + "g", front + "G", front + "1g", front + "0x1", front + "0X1", front + "#1");
    }
    failBoth("x1", "X1", "00x1", "1x1", "0#1", "+x1", "-x1");
  }

  private static void base8() {
    readsBoth("00", 0);
    readsBoth("000", 0);
    readsBoth("07", 7);
    readsBoth("010", 8);
    readsBoth("017", 15);
    readsBoth("0017", 15);
    readsBoth("0".repeat(78) + "17", 15);
    readsBoth("+" + "0".repeat(77) + "17", 15);
    failBoth("08", "09", "018", "-08", "+09", "008", "0a", "0f");
  }

  private static void base10() {
    readsBoth("0", 0);
    readsBoth("+0", 0);
    readsBoth("-0", 0);
    readsBoth("1", 1);
    readsBoth("8", 8);
    readsBoth("9", 9);
    readsBoth("10", 10);
    readsBoth("1089", 1089);
    failBoth("a", "f", "1a", "1f", "ff", "9f");
  }

  private static void oneDigitAtLeast() {
    failBoth("", "+", "-", "#", "+#", "-#", "0x", "0X", "+0x", "-0x", "+0X", "-0X");
  }

  private static void noSignAmongDigits() {
    failBoth("0x-1", "0x+1", "0X-1", "0X+1", "#-1", "#+1", "0-1", "0+1", "#-", "0x-", "0-", "0+");
    failBoth("1-", "1+", "1-2", "1+2", "01-2", "0x1-2", "#1+2", "-0x-1", "-#-1", "-0-1", "+0+1");
  }

  private static void otherSignsAreNoDigits() {
    failBoth(" 1", "1 ", "0b1", "1_0", "1L", "\0001", "1\177", "1/", "1:", "0x@", "0x`", "0 x1", "0/", "?");
  }

  private static void numberStaysIfNoneIsRead() {
    String[] wrong = {"", "-", "0x", "08", "0x1g", "12?", "9".repeat(80), "-#8000000000000001"};
    long[] before = {Long.MIN_VALUE, -1, 1, Long.MAX_VALUE};
    for (String text : wrong) {
      for (long number : before) {
        NumberScribe scribe = Check.holding(text, number);
        for (int way = 0; way <= 1; way++) {
          String call = "decode(" + way + ") of \"" + text + "\"";
          Check.due(call, scribe.decode(way), Check.NOT_A_NUMBER);
          Check.due("number() after " + call, scribe.number(), number);
        }
      }
    }
    readsBoth("-1", -1);
    readsBoth("-0x7fffffff", -0x7FFFFFFFL);
  }

  private static void otherWaysAreRefused() {
    int[] ways = {-1, 2, 3, 4, Integer.MIN_VALUE, Integer.MAX_VALUE};
    for (int way : ways) {
      answers(way, "5", Check.REFUSED, UNTOUCHED);
      answers(way, "", Check.REFUSED, UNTOUCHED);
      answers(way, "0x", Check.REFUSED, UNTOUCHED);
    }
  }
}
