/** Promises 1 to 10 in runs of 512 calls, which is all that an object is used for, against a Model. */
public final class RunsTest {
  private static final int CALLS = 512;
  private static final int RUNS = 1500;
  private static final String SIGNS = "+-0#xX0179afzFZ/:@[`{\000\177";
  private static final int[] BASES = {2, 8, 10, 16, 36, 10, 16, 3, 35, 1, 37};
  private static final long[] VALUES = {
    0, 1, -1, Integer.MAX_VALUE, Integer.MIN_VALUE, 1L << 31, 0xFFFFFFFFL, 1L << 32, Long.MAX_VALUE,
    Long.MIN_VALUE
  };

  private final NumberScribe scribe = new NumberScribe();
  private final Model model = new Model();
  private final boolean growing;
  private long seed;

  private RunsTest(int run) {
    growing = run % 3 == 0;
    seed = run;
  }

  public static void main(String[] args) {
    Check.holds("An object is used for at most 512 calls: promises 1 to 10", RunsTest::allRuns);
    Check.finish();
  }

  private static void allRuns() {
    for (int run = 0; run < RUNS; run++) {
      RunsTest one = new RunsTest(run);
      for (int call = 1; call <= CALLS; call++) {
        one.call("run " + run + ", call " + call + ": ");
      }
    }
  }

  /** A fixed row of numbers, so that every run of the test asks the same. */
  private int pick(int below) {
    seed = seed * 6364136223846793005L + 1442695040888963407L;
    return (int) ((seed >>> 33) % below);
  }

  private int way() {
    return pick(8) == 0 ? pick(9) - 2 : pick(2);
  }

  private int anyWay() {
    return pick(6) - 1;
  }

  private int base() {
    return BASES[pick(BASES.length)];
  }

  private long value() {
    long near = VALUES[pick(VALUES.length)] + pick(5) - 2;
    return pick(4) == 0 ? seed >> pick(64) : near;
  }

  private int sign() {
    return pick(60) == 0 ? pick(140) - 6 : SIGNS.charAt(pick(SIGNS.length()));
  }

  private int place() {
    return pick(model.text().length() + 3) - 1;
  }

  private void call(String name) {
    // In a growing run THE TEXT is seldom begun anew, so that it is full now and then.
    boolean anew = growing ? pick(100) == 0 : pick(5) == 0;
    if (anew) {
      callThatBeginsTextAnew(name);
      return;
    }
    switch (pick(12)) {
      case 0:
        Check.due(name + "number()", scribe.number(), model.number());
        break;
      case 1:
      case 2:
        readCall(name);
        break;
      case 3:
      case 4:
        pieceCall(name);
        break;
      case 5:
      case 6:
        int way = way();
        Check.due(name + "decode(" + way + ") of " + model.text(), scribe.decode(way), model.decode(way));
        break;
      case 7:
        int k = place();
        Check.due(name + "octet(" + k + ")", scribe.octet(k), model.octet(k));
        break;
      default:
        int sign = sign();
        Check.due(name + "type(" + sign + ")", scribe.type(sign), model.type(sign));
        break;
    }
  }

  private void callThatBeginsTextAnew(String name) {
    switch (pick(3)) {
      case 0:
        writeCall(name);
        break;
      case 1:
        basedCall(name);
        break;
      default:
        Check.due(name + "wipe()", scribe.wipe(), model.wipe());
        break;
    }
  }

  private void writeCall(String name) {
    int way = anyWay();
    long v = value();
    int base = base();
    String call = name + "write(" + way + ", " + v + ", " + base + ")";
    Check.due(call, scribe.write(way, v, base), model.write(way, v, base));
  }

  private void basedCall(String name) {
    int way = pick(8) - 1;
    long v = value();
    Check.due(name + "based(" + way + ", " + v + ")", scribe.based(way, v), model.based(way, v));
  }

  private void readCall(String name) {
    int way = anyWay();
    int base = base();
    String call = name + "read(" + way + ", " + base + ") of " + model.text();
    Check.due(call, scribe.read(way, base), model.read(way, base));
  }

  private void pieceCall(String name) {
    int way = way();
    int from = place();
    int to = place();
    int base = base();
    String call = name + "piece(" + way + ", " + from + ", " + to + ", " + base + ") of " + model.text();
    Check.due(call, scribe.piece(way, from, to, base), model.piece(way, from, to, base));
  }
}
