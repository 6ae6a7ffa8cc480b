/**
 * Ints and longs written and read in any base, with a sign or without, and their bits counted,
 * turned and moved.
 */
public final class NumberScribe {
  public static final int REFUSED = -1;

  private static final int MOST_SIGNS = 80;
  private static final int LAST_SIGN = 127;
  private static final int LEAST_BASE = 2;
  private static final int MOST_BASE = 36;
  private static final int MOST_DIGITS = 64;

  private static final int INT = 0;
  private static final int LONG = 1;
  private static final int INT_WITHOUT_SIGN = 2;
  private static final int LONG_WITHOUT_SIGN = 3;

  private static final long HIGHEST_BIT_OF_INT = 1L << 31;
  private static final long HIGHEST_BIT_OF_LONG = 1L << 63;

  private static final int READ = 0;
  private static final int NOT_A_NUMBER = 1;

  private static final int[] BASES_OF_BASED = {2, 8, 16};

  private final char[] text;
  private int size;
  private long lastRead;

  public NumberScribe() {
    text = new char[MOST_SIGNS];
    size = 0;
    lastRead = 0;
  }

  public int type(int sign) {
    if (sign < 0 || sign > LAST_SIGN || size >= MOST_SIGNS) {
      return REFUSED;
    }
    text[size] = (char) sign;
    size++;
    return size;
  }

  public int wipe() {
    int had = size;
    size = 0;
    return had;
  }

  public int octet(int k) {
    return k >= 0 && k < size ? text[k] : REFUSED;
  }

  public int write(int way, long v, int base) {
    if (!isBase(base)) {
      return REFUSED;
    }
    switch (way) {
      case INT:
        return writeWithSign((int) v, base);
      case LONG:
        return writeWithSign(v, base);
      case INT_WITHOUT_SIGN:
        return writeDigits(false, withoutSign((int) v), base);
      case LONG_WITHOUT_SIGN:
        return writeDigits(false, v, base);
      default:
        return REFUSED;
    }
  }

  public int based(int way, long v) {
    int bases = BASES_OF_BASED.length;
    if (way < 0 || way >= 2 * bases) {
      return REFUSED;
    }
    long magnitude = way < bases ? withoutSign((int) v) : v;
    return writeDigits(false, magnitude, BASES_OF_BASED[way % bases]);
  }

  public int read(int way, int base) {
    if (way < INT || way > LONG_WITHOUT_SIGN || !isBase(base)) {
      return REFUSED;
    }
    return readSpan(way, 0, size, base);
  }

  public int piece(int way, int from, int to, int base) {
    if (!hasSign(way) || !isBase(base) || from < 0 || from > to || to > size) {
      return REFUSED;
    }
    return readSpan(way, from, to, base);
  }

  public int decode(int way) {
    if (!hasSign(way)) {
      return REFUSED;
    }
    boolean below = octet(0) == '-';
    int place = below || octet(0) == '+' ? 1 : 0;
    if (octet(place) == '#') {
      return readDigits(way, below, place + 1, size, 16);
    }
    if (octet(place) != '0') {
      return readDigits(way, below, place, size, 10);
    }
    if (octet(place + 1) == 'x' || octet(place + 1) == 'X') {
      return readDigits(way, below, place + 2, size, 16);
    }
    // The leading 0 is read along as a digit, so that a 0 with nothing behind it is a number too.
    return readDigits(way, below, place, size, 8);
  }

  public long number() {
    return lastRead;
  }

  public int bits(int v, int what) {
    switch (what) {
      case 0:
        return Integer.bitCount(v);
      case 1:
        return Integer.numberOfLeadingZeros(v);
      case 2:
        return Integer.numberOfTrailingZeros(v);
      case 3:
        return Integer.highestOneBit(v);
      case 4:
        return Integer.lowestOneBit(v);
      case 5:
        return Integer.reverse(v);
      case 6:
        return Integer.reverseBytes(v);
      case 7:
        return Integer.signum(v);
      default:
        return REFUSED;
    }
  }

  public long longBits(long v, int what) {
    switch (what) {
      case 0:
        return Long.bitCount(v);
      case 1:
        return Long.numberOfLeadingZeros(v);
      case 2:
        return Long.numberOfTrailingZeros(v);
      case 3:
        return Long.highestOneBit(v);
      case 4:
        return Long.lowestOneBit(v);
      case 5:
        return Long.reverse(v);
      case 6:
        return Long.reverseBytes(v);
      case 7:
        return Long.signum(v);
      default:
        return REFUSED;
    }
  }

  public int two(int what, int v, int w) {
    switch (what) {
      case 0:
        return Integer.rotateLeft(v, w);
      case 1:
        return Integer.rotateRight(v, w);
      case 2:
        return w == 0 ? REFUSED : Integer.divideUnsigned(v, w);
      case 3:
        return w == 0 ? REFUSED : Integer.remainderUnsigned(v, w);
      case 4:
        return order(withoutSign(v), withoutSign(w));
      case 5:
        return order(v, w);
      case 6:
        return v + w;
      case 7:
        return Math.max(v, w);
      case 8:
        return Math.min(v, w);
      default:
        return REFUSED;
    }
  }

  public long longTwo(int what, long v, long w) {
    switch (what) {
      case 0:
        return Long.rotateLeft(v, (int) w);
      case 1:
        return Long.rotateRight(v, (int) w);
      case 2:
        return w == 0 ? REFUSED : Long.divideUnsigned(v, w);
      case 3:
        return w == 0 ? REFUSED : Long.remainderUnsigned(v, w);
      case 4:
        // With the highest bit turned over, the order with a sign is the order without one.
        return order(v ^ HIGHEST_BIT_OF_LONG, w ^ HIGHEST_BIT_OF_LONG);
      case 5:
        return order(v, w);
      case 6:
        return v + w;
      case 7:
        return Math.max(v, w);
      case 8:
        return Math.min(v, w);
      default:
        return REFUSED;
    }
  }

  public long wide(int v) {
    return withoutSign(v);
  }

  public int hash(long v) {
    return (int) (v >>> 32) ^ (int) v;
  }

  private static boolean isBase(int base) {
    return base >= LEAST_BASE && base <= MOST_BASE;
  }

  private static boolean hasSign(int way) {
    return way == INT || way == LONG;
  }

  private static long withoutSign(int v) {
    return v & 0xFFFFFFFFL;
  }

  private static int order(long v, long w) {
    if (v < w) {
      return -1;
    }
    return v > w ? 1 : 0;
  }

  private int writeWithSign(long v, int base) {
    // -v of the least long is that long again, which as a magnitude without sign is the right one.
    return v < 0 ? writeDigits(true, -v, base) : writeDigits(false, v, base);
  }

  private int writeDigits(boolean below, long magnitude, int base) {
    int first = below ? 1 : 0;
    size = first + digitCount(magnitude, base);
    if (below) {
      text[0] = '-';
    }
    long rest = magnitude;
    for (int k = size - 1; k >= first; k--) {
      text[k] = signOfDigit((int) Long.remainderUnsigned(rest, base));
      rest = Long.divideUnsigned(rest, base);
    }
    return size;
  }

  private static int digitCount(long magnitude, int base) {
    long rest = Long.divideUnsigned(magnitude, base);
    int count = 1;
    while (rest != 0 && count < MOST_DIGITS) {
      rest = Long.divideUnsigned(rest, base);
      count++;
    }
    return count;
  }

  private static char signOfDigit(int digit) {
    return (char) (digit < 10 ? '0' + digit : 'a' + digit - 10);
  }

  private static int digitOfSign(int sign) {
    if (sign >= '0' && sign <= '9') {
      return sign - '0';
    }
    if (sign >= 'a' && sign <= 'z') {
      return sign - 'a' + 10;
    }
    if (sign >= 'A' && sign <= 'Z') {
      return sign - 'A' + 10;
    }
    return MOST_BASE;
  }

  private int readSpan(int way, int from, int to, int base) {
    // Of an empty span this is the sign behind it, which is harmless: no digit is found either way.
    int front = octet(from);
    if (front == '-') {
      return hasSign(way) ? readDigits(way, true, from + 1, to, base) : NOT_A_NUMBER;
    }
    return readDigits(way, false, front == '+' ? from + 1 : from, to, base);
  }

  private int readDigits(int way, boolean below, int from, int to, int base) {
    if (from >= to) {
      return NOT_A_NUMBER;
    }
    long most = mostOf(way, below);
    long magnitude = 0;
    for (int k = from; k < to; k++) {
      int digit = digitOfSign(octet(k));
      if (digit >= base || !hasRoom(magnitude, digit, base, most)) {
        return NOT_A_NUMBER;
      }
      magnitude = magnitude * base + digit;
    }
    long value = below ? -magnitude : magnitude;
    lastRead = way == INT || way == INT_WITHOUT_SIGN ? (int) value : value;
    return READ;
  }

  /** The greatest magnitude that a way of reading takes, as a long without sign. */
  private static long mostOf(int way, boolean below) {
    switch (way) {
      case INT:
        return below ? HIGHEST_BIT_OF_INT : HIGHEST_BIT_OF_INT - 1;
      case LONG:
        return below ? HIGHEST_BIT_OF_LONG : HIGHEST_BIT_OF_LONG - 1;
      case INT_WITHOUT_SIGN:
        return 0xFFFFFFFFL;
      default:
        return -1L;
    }
  }

  /** Asked before the digit is taken in, since magnitude * base + digit may wrap. */
  private static boolean hasRoom(long magnitude, int digit, int base, long most) {
    return Long.compareUnsigned(magnitude, Long.divideUnsigned(most - digit, base)) <= 0;
  }
}
