import java.math.BigInteger;

/** Promises 13 and 14: two and longTwo, against the same with numbers of any size. */
public final class TwoTest {
  private static final long[] EDGES = {
    0, 1, 2, 3, 5, 7, 10, 31, 32, 33, 63, 64, 65, 0x7FFFFFFEL, 0x7FFFFFFFL, 0x80000000L, 0x80000001L,
    0xFFFFFFFEL, 0xFFFFFFFFL, 0x100000000L, 0x100000001L, 0x123456789ABCDEFL, 0x7FFFFFFFFFFFFFFEL,
    0x7FFFFFFFFFFFFFFFL
  };

  public static void main(String[] args) {
    namedEdges();
    for (long v : EDGES) {
      for (long w : EDGES) {
        pair(v, w);
        pair(-v, w);
        pair(v, -w);
        pair(-v, -w);
        pair(~v, ~w);
      }
    }
    Check.finish();
  }

  private static void namedEdges() {
    NumberScribe scribe = Check.holding("9");
    Check.due("two(0, 0x80000001, 1)", scribe.two(0, 0x80000001, 1), 3);
    Check.due("two(0, 1, 32)", scribe.two(0, 1, 32), 1);
    Check.due("two(0, 1, 33)", scribe.two(0, 1, 33), 2);
    Check.due("two(0, 1, -1)", scribe.two(0, 1, -1), Integer.MIN_VALUE);
    Check.due("two(1, 1, 1)", scribe.two(1, 1, 1), Integer.MIN_VALUE);
    Check.due("two(1, 1, -31)", scribe.two(1, 1, -31), Integer.MIN_VALUE);
    Check.due("two(2, -1, 2)", scribe.two(2, -1, 2), Integer.MAX_VALUE);
    Check.due("two(2, MIN, -1)", scribe.two(2, Integer.MIN_VALUE, -1), 0);
    Check.due("two(2, -1, 1)", scribe.two(2, -1, 1), -1);
    Check.due("two(3, -1, 10)", scribe.two(3, -1, 10), 5);
    Check.due("two(2, 5, 0)", scribe.two(2, 5, 0), Check.REFUSED);
    Check.due("two(3, 5, 0)", scribe.two(3, 5, 0), Check.REFUSED);
    Check.due("two(4, -1, 1)", scribe.two(4, -1, 1), 1);
    Check.due("two(5, -1, 1)", scribe.two(5, -1, 1), -1);
    Check.due("two(5, MIN, MAX)", scribe.two(5, Integer.MIN_VALUE, Integer.MAX_VALUE), -1);
    Check.due("two(6, MAX, 1)", scribe.two(6, Integer.MAX_VALUE, 1), Integer.MIN_VALUE);
    Check.due("two(7, -1, 1)", scribe.two(7, -1, 1), 1);
    Check.due("two(8, -1, 1)", scribe.two(8, -1, 1), -1);
    Check.due("longTwo(0, 1, 33)", scribe.longTwo(0, 1, 33), 1L << 33);
    Check.due("longTwo(0, 1, 64)", scribe.longTwo(0, 1, 64), 1);
    Check.due("longTwo(0, 1, 1L << 32)", scribe.longTwo(0, 1, 1L << 32), 1);
    Check.due("longTwo(1, 1, 1)", scribe.longTwo(1, 1, 1), Long.MIN_VALUE);
    Check.due("longTwo(2, -1, 2)", scribe.longTwo(2, -1, 2), Long.MAX_VALUE);
    Check.due("longTwo(3, -1, 10)", scribe.longTwo(3, -1, 10), 5);
    Check.due("longTwo(2, 5, 1L << 32)", scribe.longTwo(2, 5, 1L << 32), 0);
    Check.due("longTwo(2, 5, 0)", scribe.longTwo(2, 5, 0), Check.REFUSED);
    Check.due("longTwo(3, 5, 0)", scribe.longTwo(3, 5, 0), Check.REFUSED);
    Check.due("longTwo(4, -1, 1)", scribe.longTwo(4, -1, 1), 1);
    Check.due("longTwo(5, -1, 1)", scribe.longTwo(5, -1, 1), -1);
    Check.due("longTwo(6, MAX, 1)", scribe.longTwo(6, Long.MAX_VALUE, 1), Long.MIN_VALUE);
    Check.dueText("calls with two numbers", scribe, "9");
    Check.due("number() after calls with two numbers", scribe.number(), 0);
  }

  private static void pair(long v, long w) {
    NumberScribe scribe = new NumberScribe();
    int[] whats = {-1, 0, 1, 2, 3, 4, 5, 6, 7, 8, 9, 10, Integer.MIN_VALUE, Integer.MAX_VALUE};
    int i = (int) v;
    int j = (int) w;
    for (int what : whats) {
      int ofInts = (int) answer(what, i, j, 32);
      Check.due("two(" + what + ", " + i + ", " + j + ")", scribe.two(what, i, j), ofInts);
      long ofLongs = answer(what, v, w, 64);
      Check.due("longTwo(" + what + ", " + v + ", " + w + ")", scribe.longTwo(what, v, w), ofLongs);
    }
  }

  private static BigInteger unsigned(long v, int width) {
    return BigInteger.valueOf(v).mod(BigInteger.ONE.shiftLeft(width));
  }

  private static long turnedLeft(BigInteger v, int by, int width) {
    BigInteger moved = v.shiftLeft(by);
    return moved.or(moved.shiftRight(width)).longValue();
  }

  private static long answer(int what, long v, long w, int width) {
    BigInteger uv = unsigned(v, width);
    BigInteger uw = unsigned(w, width);
    int by = uw.mod(BigInteger.valueOf(width)).intValue();
    if ((what == 2 || what == 3) && w == 0) {
      return Check.REFUSED;
    }
    switch (what) {
      case 0:
        return turnedLeft(uv, by, width);
      case 1:
        return turnedLeft(uv, width - by, width);
      case 2:
        return uv.divide(uw).longValue();
      case 3:
        return uv.mod(uw).longValue();
      case 4:
        return uv.compareTo(uw);
      case 5:
        return BigInteger.valueOf(v).compareTo(BigInteger.valueOf(w));
      case 6:
        return uv.add(uw).longValue();
      case 7:
        return BigInteger.valueOf(v).max(BigInteger.valueOf(w)).longValue();
      case 8:
        return BigInteger.valueOf(v).min(BigInteger.valueOf(w)).longValue();
      default:
        return Check.REFUSED;
    }
  }
}
