/** Promises 11, 12, 15 and 16: bits, longBits, wide and hash, against a count bit by bit. */
public final class BitsTest {
  private static final int[] OTHERS = {-1, 8, 9, 32, -8, Integer.MIN_VALUE, Integer.MAX_VALUE};
  private static final int INT_MIN = Integer.MIN_VALUE;
  private static final long LONG_MIN = Long.MIN_VALUE;

  public static void main(String[] args) {
    Check.holds("Promise 11: 0: how many bits are 1", BitsTest::onesOfInts);
    Check.holds("Promise 11: 1: 0s before the first 1 (32 of 0)", BitsTest::zerosBeforeOfInts);
    Check.holds("Promise 11: 2: 0s behind the last (32 of 0)", BitsTest::zerosBehindOfInts);
    Check.holds("Promise 11: 3: the highest bit that is 1 alone (0 of 0)", BitsTest::highestOfInts);
    Check.holds("Promise 11: 4: the lowest, likewise", BitsTest::lowestOfInts);
    Check.holds("Promise 11: 5: (the lowest is the highest then)", BitsTest::turnedInts);
    Check.holds("Promise 11: 6: its bytes in the other order", BitsTest::turnedBytesOfInts);
    Check.holds("Promise 11: 7: -1, 0, 1 for its sign", BitsTest::signsOfInts);
    Check.holds("Promise 11: REFUSED, as an int, for another what", BitsTest::otherWhatsOfInts);
    Check.holds("Promise 12: 0: how many bits are 1", BitsTest::onesOfLongs);
    Check.holds("Promise 12: 1: (64 where it says 32)", BitsTest::zerosBeforeOfLongs);
    Check.holds("Promise 12: 2: (64 where it says 32)", BitsTest::zerosBehindOfLongs);
    Check.holds("Promise 12: 3 to 6 tell a long: 3", BitsTest::highestOfLongs);
    Check.holds("Promise 12: 3 to 6 tell a long: 4", BitsTest::lowestOfLongs);
    Check.holds("Promise 12: 3 to 6 tell a long: 5", BitsTest::turnedLongs);
    Check.holds("Promise 12: 3 to 6 tell a long: 6", BitsTest::turnedBytesOfLongs);
    Check.holds("Promise 12: 7: -1, 0, 1 for its sign", BitsTest::signsOfLongs);
    Check.holds("Promise 12: REFUSED likewise", BitsTest::otherWhatsOfLongs);
    Check.holds("Promise 15: v as a long without sign from an int: u(v)", BitsTest::wideIsWithoutSign);
    Check.holds("Promise 16: The high 32 bits of v xor its low 32 bits", BitsTest::hashOfBothHalves);
    Check.holds("Promises 11, 12, 15, 16: every pair of bits", BitsTest::everyPairOfBits);
    Check.holds("Promises 11, 12, 15, 16: state", BitsTest::stateStays);
    Check.finish();
  }

  private static void ofInt(int what, int v, int want) {
    Check.due("bits(" + v + ", " + what + ")", new NumberScribe().bits(v, what), want);
  }

  private static void ofLong(int what, long v, long want) {
    Check.due("longBits(" + v + ", " + what + ")", new NumberScribe().longBits(v, what), want);
  }

  private static void onesOfInts() {
    ofInt(0, 0, 0);
    ofInt(0, 6, 2);
    ofInt(0, INT_MIN, 1);
    ofInt(0, Integer.MAX_VALUE, 31);
    ofInt(0, -1, 32);
  }

  private static void zerosBeforeOfInts() {
    ofInt(1, 0, 32);
    ofInt(1, 1, 31);
    ofInt(1, 6, 29);
    ofInt(1, Integer.MAX_VALUE, 1);
    ofInt(1, INT_MIN, 0);
    ofInt(1, -1, 0);
  }

  private static void zerosBehindOfInts() {
    ofInt(2, 0, 32);
    ofInt(2, 1, 0);
    ofInt(2, 6, 1);
    ofInt(2, INT_MIN, 31);
    ofInt(2, -1, 0);
  }

  private static void highestOfInts() {
    ofInt(3, 0, 0);
    ofInt(3, 1, 1);
    ofInt(3, 6, 4);
    ofInt(3, Integer.MAX_VALUE, 1 << 30);
    ofInt(3, INT_MIN, INT_MIN);
    ofInt(3, -1, INT_MIN);
  }

  private static void lowestOfInts() {
    ofInt(4, 0, 0);
    ofInt(4, 1, 1);
    ofInt(4, 6, 2);
    ofInt(4, INT_MIN, INT_MIN);
    ofInt(4, -1, 1);
  }

  private static void turnedInts() {
    ofInt(5, 0, 0);
    ofInt(5, 1, INT_MIN);
    ofInt(5, INT_MIN, 1);
    ofInt(5, 6, 0x60000000);
    ofInt(5, -2, Integer.MAX_VALUE);
    ofInt(5, -1, -1);
  }

  private static void turnedBytesOfInts() {
    ofInt(6, 0, 0);
    ofInt(6, 1, 0x01000000);
    ofInt(6, 0x80, INT_MIN);
    ofInt(6, INT_MIN, 0x80);
    ofInt(6, 0x12345678, 0x78563412);
    ofInt(6, -1, -1);
  }

  private static void signsOfInts() {
    ofInt(7, 0, 0);
    ofInt(7, 1, 1);
    ofInt(7, -1, -1);
    ofInt(7, Integer.MAX_VALUE, 1);
    ofInt(7, INT_MIN, -1);
  }

  private static void otherWhatsOfInts() {
    for (int what : OTHERS) {
      ofInt(what, 0, Check.REFUSED);
      ofInt(what, 6, Check.REFUSED);
      ofInt(what, INT_MIN, Check.REFUSED);
    }
  }

  private static void onesOfLongs() {
    ofLong(0, 0, 0);
    ofLong(0, 0xFFFFFFFF00000000L, 32);
    ofLong(0, LONG_MIN, 1);
    ofLong(0, Long.MAX_VALUE, 63);
    ofLong(0, -1, 64);
  }

  private static void zerosBeforeOfLongs() {
    ofLong(1, 0, 64);
    ofLong(1, 1, 63);
    ofLong(1, 1L << 32, 31);
    ofLong(1, (1L << 32) - 1, 32);
    ofLong(1, Long.MAX_VALUE, 1);
    ofLong(1, LONG_MIN, 0);
    ofLong(1, -1, 0);
  }

  private static void zerosBehindOfLongs() {
    ofLong(2, 0, 64);
    ofLong(2, 1, 0);
    ofLong(2, 1L << 31, 31);
    ofLong(2, 1L << 32, 32);
    ofLong(2, LONG_MIN, 63);
    ofLong(2, -1, 0);
  }

  private static void highestOfLongs() {
    ofLong(3, 0, 0);
    ofLong(3, 1, 1);
    ofLong(3, 1L << 31, 1L << 31);
    ofLong(3, 3L << 32, 1L << 33);
    ofLong(3, Long.MAX_VALUE, 1L << 62);
    ofLong(3, LONG_MIN, LONG_MIN);
    ofLong(3, -1, LONG_MIN);
  }

  private static void lowestOfLongs() {
    ofLong(4, 0, 0);
    ofLong(4, 1, 1);
    ofLong(4, 1L << 31, 1L << 31);
    ofLong(4, 3L << 32, 1L << 32);
    ofLong(4, LONG_MIN, LONG_MIN);
    ofLong(4, -1, 1);
  }

  private static void turnedLongs() {
    ofLong(5, 0, 0);
    ofLong(5, 1, LONG_MIN);
    ofLong(5, LONG_MIN, 1);
    ofLong(5, 1L << 31, 1L << 32);
    // 6 << 60 is 0110 at the top: the two bits of 6 in the other order.
    ofLong(5, 6, 6L << 60);
    ofLong(5, -2, Long.MAX_VALUE);
    ofLong(5, -1, -1);
  }

  private static void turnedBytesOfLongs() {
    ofLong(6, 0, 0);
    ofLong(6, 1, 1L << 56);
    ofLong(6, 0x80, LONG_MIN);
    ofLong(6, LONG_MIN, 0x80);
    ofLong(6, 0x123456789ABCDEF0L, 0xF0DEBC9A78563412L);
    ofLong(6, -1, -1);
  }

  private static void signsOfLongs() {
    ofLong(7, 0, 0);
    ofLong(7, 1, 1);
    ofLong(7, -1, -1);
    ofLong(7, 1L << 31, 1);
    ofLong(7, 1L << 32, 1);
    ofLong(7, -(1L << 32), -1);
    ofLong(7, Long.MAX_VALUE, 1);
    ofLong(7, LONG_MIN, -1);
  }

  private static void otherWhatsOfLongs() {
    for (int what : OTHERS) {
      ofLong(what, 0, Check.REFUSED);
      ofLong(what, 6, Check.REFUSED);
      ofLong(what, LONG_MIN, Check.REFUSED);
    }
  }

  private static void wideIsWithoutSign() {
    NumberScribe scribe = new NumberScribe();
    Check.due("wide(0)", scribe.wide(0), 0);
    Check.due("wide(1)", scribe.wide(1), 1);
    Check.due("wide(MAX)", scribe.wide(Integer.MAX_VALUE), 2147483647L);
    Check.due("wide(MIN)", scribe.wide(INT_MIN), 2147483648L);
    Check.due("wide(-1)", scribe.wide(-1), 4294967295L);
  }

  private static void hashOfBothHalves() {
    NumberScribe scribe = new NumberScribe();
    Check.due("hash(0)", scribe.hash(0), 0);
    Check.due("hash(-1)", scribe.hash(-1), 0);
    Check.due("hash(1)", scribe.hash(1), 1);
    Check.due("hash(1L << 31)", scribe.hash(1L << 31), INT_MIN);
    Check.due("hash(1L << 32)", scribe.hash(1L << 32), 1);
    Check.due("hash(0xFFFFFFFF)", scribe.hash(0xFFFFFFFFL), -1);
    Check.due("hash(MIN)", scribe.hash(LONG_MIN), INT_MIN);
    Check.due("hash(MAX)", scribe.hash(Long.MAX_VALUE), INT_MIN);
    Check.due("hash(0xF00000000F)", scribe.hash(0xF00000000FL), 0xFF);
  }

  private static void everyPairOfBits() {
    for (int high = 0; high < 64; high++) {
      for (int low = 0; low <= high; low++) {
        long v = 1L << high | 1L << low;
        sameAsBitByBit(v);
        sameAsBitByBit(~v);
        sameAsBitByBit(v * 0x9E3779B97F4A7C15L);
      }
    }
  }

  private static void stateStays() {
    NumberScribe scribe = Check.holding("9", -5);
    for (int what = -1; what <= 8; what++) {
      scribe.bits(6, what);
      scribe.longBits(6, what);
    }
    scribe.wide(6);
    scribe.hash(6);
    Check.dueText("calls about bits", scribe, "9");
    Check.due("number() after calls about bits", scribe.number(), -5);
  }

  private static void sameAsBitByBit(long v) {
    NumberScribe scribe = new NumberScribe();
    int i = (int) v;
    for (int what = 0; what <= 7; what++) {
      long ofInt = bitByBit(i & 0xFFFFFFFFL, 32, what);
      Check.due("bits(" + i + ", " + what + ")", scribe.bits(i, what), (int) ofInt);
      Check.due("longBits(" + v + ", " + what + ")", scribe.longBits(v, what), bitByBit(v, 64, what));
    }
    Check.due("wide(" + i + ")", scribe.wide(i), i < 0 ? i + 4294967296L : i);
    Check.due("hash(" + v + ")", scribe.hash(v), hashBitByBit(v));
  }

  private static boolean isOne(long v, int bit) {
    return (v >>> bit) % 2 != 0;
  }

  private static long bitByBit(long v, int width, int what) {
    int ones = 0;
    int highest = -1;
    int lowest = -1;
    long turned = 0;
    long bytesTurned = 0;
    for (int bit = 0; bit < width; bit++) {
      if (isOne(v, bit)) {
        ones++;
        highest = bit;
        lowest = lowest < 0 ? bit : lowest;
        turned += 1L << (width - 1 - bit);
        bytesTurned += 1L << (width - 8 - bit / 8 * 8 + bit % 8);
      }
    }
    boolean none = ones == 0;
    long sign = highest == width - 1 ? -1 : 1;
    long[] answers = {
      ones,
      width - 1 - highest,
      none ? width : lowest,
      none ? 0 : 1L << highest,
      none ? 0 : 1L << lowest,
      turned,
      bytesTurned,
      none ? 0 : sign
    };
    return answers[what];
  }

  private static int hashBitByBit(long v) {
    int hash = 0;
    for (int bit = 0; bit < 32; bit++) {
      if (isOne(v, bit) != isOne(v, bit + 32)) {
        hash += 1 << bit;
      }
    }
    return hash;
  }
}
