/** Promises 11, 12, 15 and 16: bits, longBits, wide and hash, against a count bit by bit. */
public final class BitsTest {
  private static final int[] OTHERS = {-1, 8, 9, 32, -8, Integer.MIN_VALUE, Integer.MAX_VALUE};

  public static void main(String[] args) {
    namedEdges();
    for (int high = 0; high < 64; high++) {
      for (int low = 0; low <= high; low++) {
        long v = 1L << high | 1L << low;
        sameAsBitByBit(v);
        sameAsBitByBit(~v);
        sameAsBitByBit(v * 0x9E3779B97F4A7C15L);
      }
    }
    sameAsBitByBit(0);
    sameAsBitByBit(-1);
    Check.finish();
  }

  private static void namedEdges() {
    NumberScribe scribe = Check.holding("9");
    int[] ofZero = {0, 32, 32, 0, 0, 0, 0, 0};
    int[] ofSix = {2, 29, 1, 4, 2, 0x60000000, 0x06000000, 1};
    int[] ofLeast = {1, 0, 31, Integer.MIN_VALUE, Integer.MIN_VALUE, 1, 0x80, -1};
    long[] ofLongZero = {0, 64, 64, 0, 0, 0, 0, 0};
    long[] ofLongSix = {2, 61, 1, 4, 2, 6L << 60, 6L << 56, 1};
    long[] ofLongLeast = {1, 0, 63, Long.MIN_VALUE, Long.MIN_VALUE, 1, 0x80, -1};
    for (int what = 0; what <= 7; what++) {
      Check.due("bits(0, " + what + ")", scribe.bits(0, what), ofZero[what]);
      Check.due("bits(6, " + what + ")", scribe.bits(6, what), ofSix[what]);
      Check.due("bits(MIN, " + what + ")", scribe.bits(Integer.MIN_VALUE, what), ofLeast[what]);
      Check.due("longBits(0, " + what + ")", scribe.longBits(0, what), ofLongZero[what]);
      // 6 << 60 is 0110 at the top: the two bits of 6 in the other order.
      Check.due("longBits(6, " + what + ")", scribe.longBits(6, what), ofLongSix[what]);
      Check.due("longBits(MIN, " + what + ")", scribe.longBits(Long.MIN_VALUE, what), ofLongLeast[what]);
    }
    Check.due("bits(0x12345678, 6)", scribe.bits(0x12345678, 6), 0x78563412);
    Check.due("longBits(.., 6)", scribe.longBits(0x123456789ABCDEF0L, 6), 0xF0DEBC9A78563412L);
    Check.due("wide(-1)", scribe.wide(-1), 4294967295L);
    Check.due("wide(MIN)", scribe.wide(Integer.MIN_VALUE), 2147483648L);
    Check.due("wide(MAX)", scribe.wide(Integer.MAX_VALUE), 2147483647L);
    Check.due("wide(0)", scribe.wide(0), 0);
    Check.due("hash(0)", scribe.hash(0), 0);
    Check.due("hash(-1)", scribe.hash(-1), 0);
    Check.due("hash(1)", scribe.hash(1), 1);
    Check.due("hash(1L << 32)", scribe.hash(1L << 32), 1);
    Check.due("hash(MIN)", scribe.hash(Long.MIN_VALUE), Integer.MIN_VALUE);
    Check.due("hash(0xF00000000F)", scribe.hash(0xF00000000FL), 0xFF);
    Check.dueText("calls about bits", scribe, "9");
    Check.due("number() after calls about bits", scribe.number(), 0);
  }

  private static void sameAsBitByBit(long v) {
    NumberScribe scribe = new NumberScribe();
    int i = (int) v;
    for (int what = 0; what <= 7; what++) {
      long ofInt = bitByBit(i & 0xFFFFFFFFL, 32, what);
      Check.due("bits(" + i + ", " + what + ")", scribe.bits(i, what), (int) ofInt);
      Check.due("longBits(" + v + ", " + what + ")", scribe.longBits(v, what), bitByBit(v, 64, what));
    }
    for (int what : OTHERS) {
      Check.due("bits(" + i + ", " + what + ")", scribe.bits(i, what), Check.REFUSED);
      Check.due("longBits(" + v + ", " + what + ")", scribe.longBits(v, what), Check.REFUSED);
    }
    Check.due("wide(" + i + ")", scribe.wide(i), i < 0 ? i + 4294967296L : i);
    Check.due("hash(" + v + ")", scribe.hash(v), hashBitByBit(v));
  }

  private static boolean isOne(long v, int bit) {
    return (v >>> bit) % 2 != 0;
  }

  private static long bitByBit(long v, int width, int what) {
    int ones = 0;
    int highest = -1;
    int lowest = -1;
    long turned = 0;
    long bytesTurned = 0;
    for (int bit = 0; bit < width; bit++) {
      if (isOne(v, bit)) {
        ones++;
        highest = bit;
        lowest = lowest < 0 ? bit : lowest;
        turned += 1L << (width - 1 - bit);
        bytesTurned += 1L << (width - 8 - bit / 8 * 8 + bit % 8);
      }
    }
    boolean none = ones == 0;
    long sign = highest == width - 1 ? -1 : 1;
    long[] answers = {
      ones,
      width - 1 - highest,
      none ? width : lowest,
      none ? 0 : 1L << highest,
      none ? 0 : 1L << lowest,
      turned,
      bytesTurned,
      none ? 0 : sign
    };
    return answers[what];
  }

  private static int hashBitByBit(long v) {
    int hash = 0;
    for (int bit = 0; bit < 32; bit++) {
      if (isOne(v, bit) != isOne(v, bit + 32)) {
        hash += 1 << bit;
      }
    }
    return hash;
  }
}
