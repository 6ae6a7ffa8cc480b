import java.math.BigInteger;

/** Promises 13 and 14: two and longTwo, sentence by sentence, then against numbers of any size. */
public final class TwoTest {
  private static final int[] OTHERS = {-1, 9, 10, -2, Integer.MIN_VALUE, Integer.MAX_VALUE};
  private static final int INT_MIN = Integer.MIN_VALUE;
  private static final int INT_MAX = Integer.MAX_VALUE;
  private static final long LONG_MIN = Long.MIN_VALUE;
  private static final long LONG_MAX = Long.MAX_VALUE;

  private static final long[] EDGES = {
    0, 1, 2, 3, 5, 7, 10, 31, 32, 33, 63, 64, 65, 0x7FFFFFFEL, 0x7FFFFFFFL, 0x80000000L, 0x80000001L,
    0xFFFFFFFEL, 0xFFFFFFFFL, 0x100000000L, 0x100000001L, 0x123456789ABCDEFL, 0x7FFFFFFFFFFFFFFEL,
    0x7FFFFFFFFFFFFFFFL
  };

  public static void main(String[] args) {
    Check.holds("Promise 13: 0: round (by the lowest 5 bits of w)", TwoTest::intsTurnedLeft);
    Check.holds("Promise 13: 1: right, likewise", TwoTest::intsTurnedRight);
    Check.holds("Promise 13: 2: u(v) / u(w)", TwoTest::intsDivided);
    Check.holds("Promise 13: 3: what is left of it", TwoTest::whatIsLeftOfInts);
    Check.holds("Promises 13, 14: (both as the int with those bits)", TwoTest::dividedToBelowZero);
    Check.holds("Promise 13: 4: as u(v) is below, the same, above u(w)", TwoTest::orderOfIntsWithoutSign);
    Check.holds("Promise 13: 5: as v is below w", TwoTest::orderOfInts);
    Check.holds("Promise 13: 6: v + w (wrapping)", TwoTest::sumsOfInts);
    Check.holds("Promise 13: 7: the greater", TwoTest::greaterInts);
    Check.holds("Promise 13: 8: the less", TwoTest::lessInts);
    Check.holds("Promise 13: 2 and 3 of w 0: REFUSED", TwoTest::intsByZeroAreRefused);
    Check.holds("Promise 13: and others: REFUSED", TwoTest::otherWhatsOfInts);
    Check.holds("Promise 14: 0: (by the lowest 6 bits of w)", TwoTest::longsTurnedLeft);
    Check.holds("Promise 14: 1: (by the lowest 6 bits of w)", TwoTest::longsTurnedRight);
    Check.holds("Promise 14: 2: u(v) / u(w)", TwoTest::longsDivided);
    Check.holds("Promise 14: 3: what is left of it", TwoTest::whatIsLeftOfLongs);
    Check.holds("Promise 14: 4: as u(v) is below, the same, above u(w)", TwoTest::orderOfLongsWithoutSign);
    Check.holds("Promise 14: 5: as v is below w", TwoTest::orderOfLongs);
    Check.holds("Promise 14: 6: v + w (wrapping)", TwoTest::sumsOfLongs);
    Check.holds("Promise 14: 7: the greater", TwoTest::greaterLongs);
    Check.holds("Promise 14: 8: the less", TwoTest::lessLongs);
    Check.holds("Promise 14: 2 and 3 of w 0: REFUSED", TwoTest::longsByZeroAreRefused);
    Check.holds("Promise 14: and others: REFUSED", TwoTest::otherWhatsOfLongs);
    Check.holds("Promises 13, 14: pairs of edges", TwoTest::pairsOfEdges);
    Check.holds("Promises 13, 14: state", TwoTest::stateStays);
    Check.finish();
  }

  private static void ofInts(int what, int v, int w, int want) {
    Check.due("two(" + what + ", " + v + ", " + w + ")", new NumberScribe().two(what, v, w), want);
  }

  private static void ofLongs(int what, long v, long w, long want) {
    String call = "longTwo(" + what + ", " + v + ", " + w + ")";
    Check.due(call, new NumberScribe().longTwo(what, v, w), want);
  }

  private static void intsTurnedLeft() {
    ofInts(0, 1, 0, 1);
    ofInts(0, 1, 1, 2);
    ofInts(0, 1, 31, INT_MIN);
    ofInts(0, 1, 32, 1);
    ofInts(0, 1, 33, 2);
    ofInts(0, 1, -1, INT_MIN);
    ofInts(0, 1, -32, 1);
    ofInts(0, 1, INT_MIN, 1);
    ofInts(0, 1, INT_MAX, INT_MIN);
    ofInts(0, 0x80000001, 1, 3);
    ofInts(0, INT_MIN, 1, 1);
  }

  private static void intsTurnedRight() {
    ofInts(1, 1, 0, 1);
    ofInts(1, 1, 1, INT_MIN);
    ofInts(1, 1, 31, 2);
    ofInts(1, 1, 32, 1);
    ofInts(1, 1, 33, INT_MIN);
    ofInts(1, 1, -1, 2);
    ofInts(1, 1, -31, INT_MIN);
    ofInts(1, 1, INT_MIN, 1);
    ofInts(1, 1, INT_MAX, 2);
    ofInts(1, INT_MIN, 31, 1);
    ofInts(1, 3, 1, 0x80000001);
  }

  private static void intsDivided() {
    ofInts(2, 0, 5, 0);
    ofInts(2, 17, 5, 3);
    ofInts(2, -1, 2, INT_MAX);
    ofInts(2, INT_MIN, 2, 1 << 30);
    ofInts(2, INT_MIN, -1, 0);
    ofInts(2, -1, INT_MIN, 1);
    ofInts(2, -1, -1, 1);
    ofInts(2, INT_MAX, INT_MIN, 0);
  }

  private static void whatIsLeftOfInts() {
    ofInts(3, 0, 5, 0);
    ofInts(3, 17, 5, 2);
    ofInts(3, -1, 10, 5);
    ofInts(3, -1, 1, 0);
    ofInts(3, -1, INT_MIN, INT_MAX);
    ofInts(3, -1, -1, 0);
    ofInts(3, INT_MAX, INT_MIN, INT_MAX);
  }

  private static void dividedToBelowZero() {
    ofInts(2, -1, 1, -1);
    ofInts(2, INT_MIN, 1, INT_MIN);
    ofInts(3, INT_MIN, -1, INT_MIN);
    ofInts(3, -2, -1, -2);
    ofLongs(2, -1, 1, -1);
    ofLongs(2, LONG_MIN, 1, LONG_MIN);
    ofLongs(3, LONG_MIN, -1, LONG_MIN);
    ofLongs(3, -2, -1, -2);
  }

  private static void orderOfIntsWithoutSign() {
    ofInts(4, 0, 0, 0);
    ofInts(4, 0, 1, -1);
    ofInts(4, 1, 0, 1);
    ofInts(4, -1, 1, 1);
    ofInts(4, 1, -1, -1);
    ofInts(4, -1, -1, 0);
    ofInts(4, INT_MAX, INT_MIN, -1);
    ofInts(4, INT_MIN, INT_MAX, 1);
    ofInts(4, INT_MIN, -1, -1);
    ofInts(4, 0, -1, -1);
  }

  private static void orderOfInts() {
    ofInts(5, 0, 0, 0);
    ofInts(5, 0, 1, -1);
    ofInts(5, 1, 0, 1);
    ofInts(5, -1, 1, -1);
    ofInts(5, 1, -1, 1);
    ofInts(5, INT_MIN, INT_MAX, -1);
    ofInts(5, INT_MAX, INT_MIN, 1);
    ofInts(5, INT_MIN, INT_MIN, 0);
    ofInts(5, INT_MIN, 1, -1);
  }

  private static void sumsOfInts() {
    ofInts(6, 0, 0, 0);
    ofInts(6, 2, 3, 5);
    ofInts(6, INT_MAX, 1, INT_MIN);
    ofInts(6, INT_MIN, -1, INT_MAX);
    ofInts(6, INT_MIN, INT_MIN, 0);
    ofInts(6, INT_MAX, INT_MAX, -2);
    ofInts(6, INT_MIN, INT_MAX, -1);
  }

  private static void greaterInts() {
    ofInts(7, -1, 1, 1);
    ofInts(7, 1, -1, 1);
    ofInts(7, 4, 4, 4);
    ofInts(7, INT_MIN, INT_MAX, INT_MAX);
    ofInts(7, INT_MIN, -1, -1);
  }

  private static void lessInts() {
    ofInts(8, -1, 1, -1);
    ofInts(8, 1, -1, -1);
    ofInts(8, 4, 4, 4);
    ofInts(8, INT_MAX, INT_MIN, INT_MIN);
    ofInts(8, INT_MIN, -1, INT_MIN);
  }

  private static void intsByZeroAreRefused() {
    int[] values = {0, 1, 5, -7, INT_MIN, INT_MAX};
    for (int v : values) {
      ofInts(2, v, 0, Check.REFUSED);
      ofInts(3, v, 0, Check.REFUSED);
    }
    // Of the others, w 0 is a number like any.
    ofInts(0, 5, 0, 5);
    ofInts(1, 5, 0, 5);
    ofInts(4, 5, 0, 1);
    ofInts(5, 5, 0, 1);
    ofInts(6, 5, 0, 5);
    ofInts(7, 5, 0, 5);
    ofInts(8, 5, 0, 0);
  }

  private static void otherWhatsOfInts() {
    for (int what : OTHERS) {
      ofInts(what, 5, 3, Check.REFUSED);
      ofInts(what, 5, 0, Check.REFUSED);
      ofInts(what, INT_MIN, INT_MAX, Check.REFUSED);
    }
  }

  private static void longsTurnedLeft() {
    ofLongs(0, 1, 0, 1);
    ofLongs(0, 1, 31, 1L << 31);
    ofLongs(0, 1, 32, 1L << 32);
    ofLongs(0, 1, 33, 1L << 33);
    ofLongs(0, 1, 63, LONG_MIN);
    ofLongs(0, 1, 64, 1);
    ofLongs(0, 1, 65, 2);
    ofLongs(0, 1, -1, LONG_MIN);
    ofLongs(0, 1, 1L << 32, 1);
    ofLongs(0, 1, (1L << 32) + 3, 8);
    ofLongs(0, 1, LONG_MIN, 1);
    ofLongs(0, 1, LONG_MAX, LONG_MIN);
    ofLongs(0, LONG_MIN, 1, 1);
  }

  private static void longsTurnedRight() {
    ofLongs(1, 1, 0, 1);
    ofLongs(1, 1, 1, LONG_MIN);
    ofLongs(1, 1, 32, 1L << 32);
    ofLongs(1, 1, 63, 2);
    ofLongs(1, 1, 64, 1);
    ofLongs(1, 1, 65, LONG_MIN);
    ofLongs(1, 1, -1, 2);
    ofLongs(1, 1, 1L << 32, 1);
    ofLongs(1, 8, (1L << 32) + 3, 1);
    ofLongs(1, 1, LONG_MIN, 1);
    ofLongs(1, 1, LONG_MAX, 2);
    ofLongs(1, LONG_MIN, 63, 1);
  }

  private static void longsDivided() {
    ofLongs(2, 0, 5, 0);
    ofLongs(2, 17, 5, 3);
    ofLongs(2, -1, 2, LONG_MAX);
    ofLongs(2, LONG_MIN, 2, 1L << 62);
    ofLongs(2, LONG_MIN, -1, 0);
    ofLongs(2, -1, LONG_MIN, 1);
    ofLongs(2, -1, -1, 1);
    ofLongs(2, LONG_MAX, LONG_MIN, 0);
    ofLongs(2, -1, 10, 1844674407370955161L);
  }

  private static void whatIsLeftOfLongs() {
    ofLongs(3, 0, 5, 0);
    ofLongs(3, 17, 5, 2);
    ofLongs(3, -1, 10, 5);
    ofLongs(3, -1, 1, 0);
    ofLongs(3, -1, LONG_MIN, LONG_MAX);
    ofLongs(3, -1, -1, 0);
    ofLongs(3, LONG_MAX, LONG_MIN, LONG_MAX);
  }

  private static void orderOfLongsWithoutSign() {
    ofLongs(4, 0, 0, 0);
    ofLongs(4, 0, 1, -1);
    ofLongs(4, 1, 0, 1);
    ofLongs(4, -1, 1, 1);
    ofLongs(4, 1, -1, -1);
    ofLongs(4, -1, -1, 0);
    ofLongs(4, LONG_MAX, LONG_MIN, -1);
    ofLongs(4, LONG_MIN, LONG_MAX, 1);
    ofLongs(4, LONG_MIN, -1, -1);
    ofLongs(4, 1L << 32, 1, 1);
  }

  private static void orderOfLongs() {
    ofLongs(5, 0, 0, 0);
    ofLongs(5, 0, 1, -1);
    ofLongs(5, 1, 0, 1);
    ofLongs(5, -1, 1, -1);
    ofLongs(5, 1, -1, 1);
    ofLongs(5, LONG_MIN, LONG_MAX, -1);
    ofLongs(5, LONG_MAX, LONG_MIN, 1);
    ofLongs(5, LONG_MIN, LONG_MIN, 0);
    ofLongs(5, 1L << 32, 1, 1);
  }

  private static void sumsOfLongs() {
    ofLongs(6, 0, 0, 0);
    ofLongs(6, INT_MAX, 1, 1L << 31);
    ofLongs(6, LONG_MAX, 1, LONG_MIN);
    ofLongs(6, LONG_MIN, -1, LONG_MAX);
    ofLongs(6, LONG_MIN, LONG_MIN, 0);
    ofLongs(6, LONG_MAX, LONG_MAX, -2);
    ofLongs(6, LONG_MIN, LONG_MAX, -1);
  }

  private static void greaterLongs() {
    ofLongs(7, -1, 1, 1);
    ofLongs(7, 1, -1, 1);
    ofLongs(7, 4, 4, 4);
    ofLongs(7, LONG_MIN, LONG_MAX, LONG_MAX);
    ofLongs(7, 1L << 32, 1, 1L << 32);
  }

  private static void lessLongs() {
    ofLongs(8, -1, 1, -1);
    ofLongs(8, 1, -1, -1);
    ofLongs(8, 4, 4, 4);
    ofLongs(8, LONG_MAX, LONG_MIN, LONG_MIN);
    ofLongs(8, 1L << 32, 1, 1);
  }

  private static void longsByZeroAreRefused() {
    long[] values = {0, 1, 5, -7, LONG_MIN, LONG_MAX};
    for (long v : values) {
      ofLongs(2, v, 0, Check.REFUSED);
      ofLongs(3, v, 0, Check.REFUSED);
    }
    // Their lowest 32 bits alone are 0.
    ofLongs(2, 5, 1L << 32, 0);
    ofLongs(3, 5, 1L << 32, 5);
    ofLongs(0, 5, 0, 5);
    ofLongs(1, 5, 0, 5);
    ofLongs(4, 5, 0, 1);
    ofLongs(5, 5, 0, 1);
    ofLongs(6, 5, 0, 5);
    ofLongs(7, 5, 0, 5);
    ofLongs(8, 5, 0, 0);
  }

  private static void otherWhatsOfLongs() {
    for (int what : OTHERS) {
      ofLongs(what, 5, 3, Check.REFUSED);
      ofLongs(what, 5, 0, Check.REFUSED);
      ofLongs(what, LONG_MIN, LONG_MAX, Check.REFUSED);
    }
  }

  private static void stateStays() {
    NumberScribe scribe = Check.holding("9", -5);
    for (int what = -1; what <= 9; what++) {
      scribe.two(what, 6, 0);
      scribe.two(what, 6, 4);
      scribe.longTwo(what, 6, 0);
      scribe.longTwo(what, 6, 4);
    }
    Check.dueText("calls with two numbers", scribe, "9");
    Check.due("number() after calls with two numbers", scribe.number(), -5);
  }

  private static void pairsOfEdges() {
    for (long v : EDGES) {
      for (long w : EDGES) {
        pair(v, w);
        pair(-v, w);
        pair(v, -w);
        pair(-v, -w);
        pair(~v, ~w);
      }
    }
  }

  private static void pair(long v, long w) {
    NumberScribe scribe = new NumberScribe();
    int i = (int) v;
    int j = (int) w;
    for (int what = -1; what <= 9; what++) {
      int ofInts = (int) answer(what, i, j, 32);
      Check.due("two(" + what + ", " + i + ", " + j + ")", scribe.two(what, i, j), ofInts);
      long ofLongs = answer(what, v, w, 64);
      Check.due("longTwo(" + what + ", " + v + ", " + w + ")", scribe.longTwo(what, v, w), ofLongs);
    }
  }

  private static BigInteger unsigned(long v, int width) {
    return BigInteger.valueOf(v).mod(BigInteger.ONE.shiftLeft(width));
  }

  private static long turnedLeft(BigInteger v, int by, int width) {
    BigInteger moved = v.shiftLeft(by);
    return moved.or(moved.shiftRight(width)).longValue();
  }

  private static long answer(int what, long v, long w, int width) {
    BigInteger uv = unsigned(v, width);
    BigInteger uw = unsigned(w, width);
    int by = uw.mod(BigInteger.valueOf(width)).intValue();
    if ((what == 2 || what == 3) && w == 0) {
      return Check.REFUSED;
    }
    switch (what) {
      case 0:
        return turnedLeft(uv, by, width);
      case 1:
        return turnedLeft(uv, width - by, width);
      case 2:
        return uv.divide(uw).longValue();
      case 3:
        return uv.mod(uw).longValue();
      case 4:
        return uv.compareTo(uw);
      case 5:
        return BigInteger.valueOf(v).compareTo(BigInteger.valueOf(w));
      case 6:
        return uv.add(uw).longValue();
      case 7:
        return BigInteger.valueOf(v).max(BigInteger.valueOf(w)).longValue();
      case 8:
        return BigInteger.valueOf(v).min(BigInteger.valueOf(w)).longValue();
      default:
        return Check.REFUSED;
    }
  }
}
