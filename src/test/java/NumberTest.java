/** Promise 10: THE NUMBER, which every reading that succeeds tells anew and nothing else changes. */
public final class NumberTest {
  public static void main(String[] args) {
    Check.holds("Promise 10: THE NUMBER", NumberTest::lastOneReadIsTold);
    Check.holds("Promise 10: 0 at first", NumberTest::zeroAtFirst);
    Check.holds("Promise 7: it stays if there is none", NumberTest::failedReadingsLeaveIt);
    Check.holds("Promise 7: it stays if there is none (REFUSED)", NumberTest::refusedReadingsLeaveIt);
    Check.holds("Promise 10: THE NUMBER (other calls)", NumberTest::otherCallsLeaveIt);
    Check.finish();
  }

  private static void lastOneReadIsTold() {
    NumberScribe scribe = Check.holding("012");
    Check.due("read(0, 10) of 012", scribe.read(0, 10), Check.READ);
    Check.due("number() after read", scribe.number(), 12);
    Check.due("number() once more", scribe.number(), 12);
    Check.due("piece(1, 0, 2, 10) of 012", scribe.piece(1, 0, 2, 10), Check.READ);
    Check.due("number() after piece", scribe.number(), 1);
    Check.due("decode(0) of 012", scribe.decode(0), Check.READ);
    Check.due("number() after decode", scribe.number(), 10);
    scribe.write(1, Long.MIN_VALUE, 36);
    Check.due("read(1, 36) of the least long", scribe.read(1, 36), Check.READ);
    Check.due("number() of the least long", scribe.number(), Long.MIN_VALUE);
    scribe.write(0, 0, 10);
    Check.due("decode(1) of 0", scribe.decode(1), Check.READ);
    Check.due("number() of 0", scribe.number(), 0);
  }

  private static void zeroAtFirst() {
    NumberScribe scribe = new NumberScribe();
    Check.due("number() of a new object", scribe.number(), 0);
    Check.due("read(0, 10) of none", scribe.read(0, 10), Check.NOT_A_NUMBER);
    Check.due("number() after it", scribe.number(), 0);
    scribe.type('5');
    Check.due("number() of what is not read yet", scribe.number(), 0);
  }

  private static void failedReadingsLeaveIt() {
    String[] wrong = {"", "-", "+", "12?", "9223372036854775808", "-9223372036854775809"};
    for (String text : wrong) {
      NumberScribe scribe = Check.holding(text, -5);
      Check.due("read(1, 10) of \"" + text + "\"", scribe.read(1, 10), Check.NOT_A_NUMBER);
      Check.due("number() after it", scribe.number(), -5);
      int whole = scribe.piece(1, 0, text.length(), 10);
      Check.due("piece of \"" + text + "\"", whole, Check.NOT_A_NUMBER);
      Check.due("number() after it", scribe.number(), -5);
      Check.due("decode(1) of \"" + text + "\"", scribe.decode(1), Check.NOT_A_NUMBER);
      Check.due("number() after it", scribe.number(), -5);
    }
  }

  private static void refusedReadingsLeaveIt() {
    NumberScribe scribe = Check.holding("12", -5);
    Check.due("read(4, 10)", scribe.read(4, 10), Check.REFUSED);
    Check.due("number() after read(4, 10)", scribe.number(), -5);
    Check.due("read(0, 37)", scribe.read(0, 37), Check.REFUSED);
    Check.due("number() after read(0, 37)", scribe.number(), -5);
    Check.due("piece(2, 0, 1, 10)", scribe.piece(2, 0, 1, 10), Check.REFUSED);
    Check.due("number() after piece(2, 0, 1, 10)", scribe.number(), -5);
    Check.due("piece(0, 0, 3, 10)", scribe.piece(0, 0, 3, 10), Check.REFUSED);
    Check.due("number() after piece(0, 0, 3, 10)", scribe.number(), -5);
    Check.due("decode(2)", scribe.decode(2), Check.REFUSED);
    Check.due("number() after decode(2)", scribe.number(), -5);
  }

  private static void otherCallsLeaveIt() {
    NumberScribe scribe = Check.holding("12", -5);
    scribe.type('3');
    Check.due("number() after type", scribe.number(), -5);
    scribe.octet(0);
    Check.due("number() after octet", scribe.number(), -5);
    scribe.wipe();
    Check.due("number() after wipe", scribe.number(), -5);
    scribe.write(1, 8, 10);
    Check.due("number() after write", scribe.number(), -5);
    scribe.based(5, 8);
    Check.due("number() after based", scribe.number(), -5);
    scribe.bits(8, 0);
    scribe.longBits(8, 0);
    scribe.two(6, 1, 2);
    scribe.longTwo(6, 1, 2);
    scribe.wide(8);
    scribe.hash(8);
    Check.due("number() after calls about bits", scribe.number(), -5);
    Check.dueText("calls about bits", scribe, "8");
  }
}
