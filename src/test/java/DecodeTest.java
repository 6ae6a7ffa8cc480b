/** Promise 9: decode. */
public final class DecodeTest {
  public static void main(String[] args) {
    ordinaryNumbers();
    rangeOfInts();
    rangeOfLongs();
    whatIsNoNumber();
    otherWaysAreRefused();
    Check.finish();
  }

  private static void answers(int way, String text, int kind, long number) {
    String call = "decode(" + way + ") of \"" + text + "\"";
    NumberScribe scribe = Check.holding("77");
    Check.due("decode(1) of 77", scribe.decode(1), Check.READ);
    scribe.wipe();
    for (int k = 0; k < text.length(); k++) {
      scribe.type(text.charAt(k));
    }
    Check.due(call, scribe.decode(way), kind);
    Check.due("number() after " + call, scribe.number(), number);
    Check.dueText(call, scribe, text);
  }

  private static void reads(int way, String text, long number) {
    answers(way, text, Check.READ, number);
  }

  private static void fails(int way, String text) {
    answers(way, text, Check.NOT_A_NUMBER, 77);
  }

  private static void readsBoth(String text, long number) {
    reads(0, text, number);
    reads(1, text, number);
  }

  private static void ordinaryNumbers() {
    readsBoth("5", 5);
    readsBoth("1089", 1089);
    readsBoth("0", 0);
    readsBoth("00", 0);
    readsBoth("000", 0);
    readsBoth("017", 15);
    readsBoth("0017", 15);
    readsBoth("0x1f", 31);
    readsBoth("0X1F", 31);
    readsBoth("0x00", 0);
    readsBoth("#1f", 31);
    readsBoth("#0", 0);
    readsBoth("#010", 16);
    readsBoth("0x" + "0".repeat(77) + "a", 10);
    readsBoth("0".repeat(78) + "17", 15);
    String[] positive = {"89", "0", "017", "0x1f", "0X1F", "#1f"};
    long[] values = {89, 0, 15, 31, 31, 31};
    for (int k = 0; k < positive.length; k++) {
      readsBoth("+" + positive[k], values[k]);
      readsBoth("-" + positive[k], -values[k]);
    }
  }

  private static void rangeOfInts() {
    reads(0, "2147483647", Integer.MAX_VALUE);
    fails(0, "2147483648");
    reads(0, "-2147483648", Integer.MIN_VALUE);
    fails(0, "-2147483649");
    reads(0, "0x7fffffff", Integer.MAX_VALUE);
    fails(0, "0x80000000");
    reads(0, "-0x80000000", Integer.MIN_VALUE);
    fails(0, "-0x80000001");
    fails(0, "#ffffffff");
    reads(0, "017777777777", Integer.MAX_VALUE);
    fails(0, "020000000000");
    reads(0, "-020000000000", Integer.MIN_VALUE);
    fails(0, "-020000000001");
    fails(0, "#10000000000000001");
  }

  private static void rangeOfLongs() {
    reads(1, "9223372036854775807", Long.MAX_VALUE);
    fails(1, "9223372036854775808");
    reads(1, "-9223372036854775808", Long.MIN_VALUE);
    fails(1, "-9223372036854775809");
    reads(1, "0X7FFFFFFFFFFFFFFF", Long.MAX_VALUE);
    fails(1, "0x8000000000000000");
    reads(1, "-#8000000000000000", Long.MIN_VALUE);
    fails(1, "-#8000000000000001");
    reads(1, "0" + "7".repeat(21), Long.MAX_VALUE);
    fails(1, "01" + "0".repeat(21));
    reads(1, "-01" + "0".repeat(21), Long.MIN_VALUE);
    fails(1, "-01" + "0".repeat(20) + "1");
    fails(1, "#" + "f".repeat(16));
    fails(1, "#10000000000000001");
    fails(1, "9".repeat(80));
  }

  private static void whatIsNoNumber() {
    String[] wrong = {
      "", "+", "-", "#", "+#", "-#", "0x", "0X", "-0x", "+0X", "08", "09", "-08", "0a", "1a", "a", "ff",
      "--1", "++1", "+-1", "-+1", "0-1", "0+1", "0x-1", "0x+1", "#-1", "#+1", "#-", "##1", "0x#1",
      "#0x1", "0#1", "0x0x1", "00x1", "x1", "X1", "1x1", "0xg", "#G", " 1", "1 ", "1-", "1+", "-0x-1",
      "0b1", "1_0", "1L", "\0001"
    };
    for (String text : wrong) {
      fails(0, text);
      fails(1, text);
    }
  }

  private static void otherWaysAreRefused() {
    int[] ways = {-1, 2, 3, 4, Integer.MIN_VALUE, Integer.MAX_VALUE};
    for (int way : ways) {
      answers(way, "5", Check.REFUSED, 77);
      answers(way, "", Check.REFUSED, 77);
    }
  }
}
