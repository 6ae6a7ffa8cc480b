/** Promises 1 to 4 and what the terms say of THE TEXT. */
public final class TextTest {
  private static final String FULL = "0123456789".repeat(8);

  public static void main(String[] args) {
    Check.holds("An object is used for at most 512 calls", TextTest::call512IsAnswered);
    Check.holds("Terms: THE TEXT has signs 0 to 127", TextTest::everySignIsTaken);
    Check.holds("Terms: at most 80", TextTest::eightySignsFit);
    Check.holds("Terms: none at first", TextTest::noneAtFirst);
    Check.holds("Promise 1: makes an object in the state that the terms give", TextTest::objectsAreApart);
    Check.holds("Promise 2: A sign comes to THE TEXT: how many it has", TextTest::signsAreCounted);
    Check.holds("Promise 2: REFUSED for another sign", TextTest::otherSignsAreRefused);
    Check.holds("Promise 2: or with 80", TextTest::fullTextRefuses);
    Check.holds("Promise 2: or with 80 (room again)", TextTest::roomComesBack);
    Check.holds("Promise 3: THE TEXT is empty", TextTest::wipeEmpties);
    Check.holds("Promise 3: how many it had", TextTest::wipeCounts);
    Check.holds("Promise 4: Sign k of THE TEXT", TextTest::octetFindsFirstAndLast);
    Check.holds("Promise 4: REFUSED if there is none", TextTest::octetRefusesOtherPlaces);
    Check.holds("Promise 4: REFUSED if there is none (any more)", TextTest::octetForgetsSignsThatWent);
    Check.holds("The public face: REFUSED = -1", () -> Check.due("REFUSED", NumberScribe.REFUSED, -1));
    Check.finish();
  }

  private static void call512IsAnswered() {
    NumberScribe scribe = new NumberScribe();
    for (int call = 1; call <= 512; call++) {
      // Each round of 82: 80 signs, one too many, and wipe.
      int step = (call - 1) % 82;
      if (step == 81) {
        Check.due("call " + call + ", wipe()", scribe.wipe(), 80);
      } else {
        int want = step < 80 ? step + 1 : Check.REFUSED;
        Check.due("call " + call + ", type('1')", scribe.type('1'), want);
      }
    }
  }

  private static void everySignIsTaken() {
    for (int sign = 0; sign <= 127; sign++) {
      NumberScribe scribe = new NumberScribe();
      Check.due("type(" + sign + ")", scribe.type(sign), 1);
      Check.due("octet(0) of sign " + sign, scribe.octet(0), sign);
    }
  }

  private static void eightySignsFit() {
    NumberScribe scribe = Check.holding(FULL);
    Check.dueText("80 signs", scribe, FULL);
  }

  private static void noneAtFirst() {
    NumberScribe scribe = new NumberScribe();
    Check.due("octet(0) of a new object", scribe.octet(0), Check.REFUSED);
    Check.due("piece(0, 0, 1, 10) of a new object", scribe.piece(0, 0, 1, 10), Check.REFUSED);
    Check.due("read(0, 10) of a new object", scribe.read(0, 10), Check.NOT_A_NUMBER);
    Check.due("wipe() of a new object", scribe.wipe(), 0);
  }

  private static void objectsAreApart() {
    NumberScribe one = Check.holding("7");
    NumberScribe other = Check.holding("85");
    Check.due("read of the other", other.read(0, 10), Check.READ);
    Check.dueText("the other's signs", one, "7");
    Check.due("number() of the one", one.number(), 0);
    NumberScribe third = new NumberScribe();
    Check.dueText("a third object", third, "");
    Check.due("number() of the third", third.number(), 0);
  }

  private static void signsAreCounted() {
    NumberScribe scribe = new NumberScribe();
    for (int k = 0; k < 80; k++) {
      Check.due("type of sign " + k, scribe.type(k), k + 1);
      Check.due("octet(" + k + ")", scribe.octet(k), k);
    }
    for (int k = 0; k < 80; k++) {
      Check.due("octet(" + k + ") of all", scribe.octet(k), k);
    }
  }

  private static void otherSignsAreRefused() {
    int[] others = {-1, 128, 255, 256, 48 + 65536, -48, Integer.MIN_VALUE, Integer.MAX_VALUE};
    NumberScribe scribe = Check.holding("a");
    for (int sign : others) {
      Check.due("type(" + sign + ")", scribe.type(sign), Check.REFUSED);
    }
    Check.dueText("refused signs", scribe, "a");
    Check.due("type after refused ones", scribe.type('b'), 2);
  }

  private static void fullTextRefuses() {
    NumberScribe scribe = Check.holding(FULL);
    Check.due("type of the 81st", scribe.type('x'), Check.REFUSED);
    Check.due("type of the 81st again", scribe.type('x'), Check.REFUSED);
    Check.due("type(-1) with 80", scribe.type(-1), Check.REFUSED);
    Check.dueText("refused signs", scribe, FULL);
    Check.due("wipe() of 80", scribe.wipe(), 80);
  }

  private static void roomComesBack() {
    NumberScribe wiped = Check.holding(FULL);
    wiped.type('x');
    wiped.wipe();
    Check.due("type after wipe() of 80", wiped.type('y'), 1);
    Check.dueText("type after wipe() of 80", wiped, "y");
    NumberScribe written = Check.holding(FULL);
    written.type('x');
    Check.due("write over 80 signs", written.write(0, -12, 10), 3);
    Check.due("type behind it", written.type('4'), 4);
    Check.dueText("type behind it", written, "-124");
  }

  private static void wipeEmpties() {
    NumberScribe scribe = Check.holding("42");
    scribe.wipe();
    Check.dueText("wipe()", scribe, "");
    Check.due("read of what was wiped", scribe.read(0, 10), Check.NOT_A_NUMBER);
    Check.due("decode of what was wiped", scribe.decode(0), Check.NOT_A_NUMBER);
    Check.due("piece of what was wiped", scribe.piece(0, 0, 1, 10), Check.REFUSED);
    Check.due("type after wipe()", scribe.type('z'), 1);
    Check.dueText("type after wipe()", scribe, "z");
  }

  private static void wipeCounts() {
    Check.due("wipe() of none", new NumberScribe().wipe(), 0);
    Check.due("wipe() of 1", Check.holding("\000").wipe(), 1);
    Check.due("wipe() of 79", Check.holding("x".repeat(79)).wipe(), 79);
    NumberScribe full = Check.holding(FULL);
    Check.due("wipe() of 80", full.wipe(), 80);
    Check.due("wipe() again", full.wipe(), 0);
    full.write(1, Long.MIN_VALUE, 2);
    Check.due("wipe() of the longest number", full.wipe(), 65);
  }

  private static void octetFindsFirstAndLast() {
    NumberScribe scribe = Check.holding("\000b\177");
    Check.due("octet(0)", scribe.octet(0), 0);
    Check.due("octet(1)", scribe.octet(1), 'b');
    Check.due("octet(2)", scribe.octet(2), 127);
    NumberScribe full = Check.holding(FULL);
    Check.due("octet(0) of 80", full.octet(0), '0');
    Check.due("octet(79) of 80", full.octet(79), '9');
  }

  private static void octetRefusesOtherPlaces() {
    NumberScribe scribe = Check.holding("abc");
    int[] others = {-1, 3, 79, 80, 81, Integer.MIN_VALUE, Integer.MAX_VALUE};
    for (int k : others) {
      Check.due("octet(" + k + ") of abc", scribe.octet(k), Check.REFUSED);
    }
    Check.due("octet(-1) of none", new NumberScribe().octet(-1), Check.REFUSED);
    Check.due("octet(0) of none", new NumberScribe().octet(0), Check.REFUSED);
    NumberScribe full = Check.holding(FULL);
    Check.due("octet(-1) of 80", full.octet(-1), Check.REFUSED);
    Check.due("octet(80) of 80", full.octet(80), Check.REFUSED);
  }

  private static void octetForgetsSignsThatWent() {
    NumberScribe scribe = Check.holding("abc");
    scribe.wipe();
    Check.due("octet(0) after wipe()", scribe.octet(0), Check.REFUSED);
    scribe.type('d');
    Check.due("octet(1) after wipe() and one sign", scribe.octet(1), Check.REFUSED);
    scribe.write(0, 1234, 10);
    scribe.write(0, 5, 10);
    Check.due("octet(0) of a shorter number", scribe.octet(0), '5');
    Check.due("octet(1) of a shorter number", scribe.octet(1), Check.REFUSED);
  }
}
