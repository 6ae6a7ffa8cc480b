import java.math.BigInteger;

/** Promises 5 and 7 to 10 over a fixed row of numbers, against the same with numbers of any size. */
public final class RoundTripTest {
  private static final BigInteger ONE = BigInteger.ONE;

  public static void main(String[] args) {
    Check.holds("Promises 5, 7, 10: what is written is read", RoundTripTest::everyBaseThereAndBack);
    Check.holds("Promises 7 to 10: around each power of 2", RoundTripTest::aroundPowersOfTwo);
    Check.finish();
  }

  private static void everyBaseThereAndBack() {
    long v = 1;
    for (int k = 0; k < 400; k++) {
      v = v * 6364136223846793005L + 1442695040888963407L;
      for (int base = 2; base <= 36; base++) {
        writeAndReadBack(v >> (k % 64), base);
      }
    }
  }

  private static void aroundPowersOfTwo() {
    for (int bit = 0; bit <= 66; bit++) {
      for (int base = 2; base <= 36; base++) {
        readAround(ONE.shiftLeft(bit), base);
      }
    }
  }

  private static BigInteger valueOf(int way, long v) {
    switch (way) {
      case 0:
        return BigInteger.valueOf((int) v);
      case 1:
        return BigInteger.valueOf(v);
      case 2:
        return BigInteger.valueOf(v).mod(ONE.shiftLeft(32));
      default:
        return BigInteger.valueOf(v).mod(ONE.shiftLeft(64));
    }
  }

  private static void writeAndReadBack(long v, int base) {
    for (int way = 0; way <= 3; way++) {
      String call = "write(" + way + ", " + v + ", " + base + ")";
      String want = valueOf(way, v).toString(base);
      NumberScribe scribe = new NumberScribe();
      Check.due(call, scribe.write(way, v, base), want.length());
      Check.dueText(call, scribe, want);
      Check.due("read of " + call, scribe.read(way, base), Check.READ);
      Check.due("number() of " + call, scribe.number(), way % 2 == 0 ? (int) v : v);
    }
  }

  private static void readAround(BigInteger middle, int base) {
    for (int step = -2; step <= 2; step++) {
      BigInteger value = middle.add(BigInteger.valueOf(step));
      readInEveryWay(value, base);
      readInEveryWay(value.negate(), base);
    }
  }

  private static boolean isInRange(int way, BigInteger value) {
    int width = way % 2 == 0 ? 32 : 64;
    if (way >= 2) {
      return value.signum() >= 0 && value.bitLength() <= width;
    }
    return value.bitLength() < width;
  }

  private static long numberOf(int way, BigInteger value) {
    return way % 2 == 0 ? value.intValue() : value.longValue();
  }

  private static void readInEveryWay(BigInteger value, int base) {
    String text = value.toString(base);
    NumberScribe scribe = Check.holding(text);
    for (int way = 0; way <= 3; way++) {
      String call = "read(" + way + ", " + base + ") of \"" + text + "\"";
      dueOf(call, scribe, scribe.read(way, base), way, value);
    }
    for (int way = 0; way <= 1; way++) {
      String call = "piece(" + way + ", .., " + base + ") of \"" + text + "\"";
      dueOf(call, scribe, scribe.piece(way, 0, text.length(), base), way, value);
    }
    if (base == 8 || base == 10 || base == 16) {
      decodeInEveryWay(value, base);
    }
  }

  private static void decodeInEveryWay(BigInteger value, int base) {
    String front = value.signum() < 0 ? "-" : "";
    String ahead = base == 8 ? "0" : base == 10 ? "" : "0x";
    String text = front + ahead + value.abs().toString(base);
    NumberScribe scribe = Check.holding(text);
    for (int way = 0; way <= 1; way++) {
      dueOf("decode(" + way + ") of \"" + text + "\"", scribe, scribe.decode(way), way, value);
    }
  }

  private static void dueOf(String call, NumberScribe scribe, int kind, int way, BigInteger value) {
    boolean inRange = isInRange(way, value);
    Check.due(call, kind, inRange ? Check.READ : Check.NOT_A_NUMBER);
    if (inRange) {
      Check.due("number() after " + call, scribe.number(), numberOf(way, value));
    }
  }
}
