/** Promises 1 to 4, and 10 of a new object: THE TEXT sign by sign. */
public final class TextTest {
  public static void main(String[] args) {
    newObjectIsEmpty();
    objectsAreApart();
    everySignIsTaken();
    otherSignsAreRefused();
    eightySignsFit();
    wipeEmpties();
    octetLooksAtPlaces();
    Check.finish();
  }

  private static void newObjectIsEmpty() {
    NumberScribe scribe = new NumberScribe();
    Check.due("octet(0) of a new object", scribe.octet(0), Check.REFUSED);
    Check.due("number() of a new object", scribe.number(), 0);
    Check.due("read(0, 10) of a new object", scribe.read(0, 10), Check.NOT_A_NUMBER);
    Check.due("number() after it", scribe.number(), 0);
    Check.due("wipe() of a new object", scribe.wipe(), 0);
    Check.due("REFUSED", NumberScribe.REFUSED, -1);
  }

  private static void objectsAreApart() {
    NumberScribe one = Check.holding("7");
    NumberScribe other = Check.holding("85");
    Check.due("read of the other", other.read(0, 10), Check.READ);
    Check.dueText("the other's signs", one, "7");
    Check.due("number() of the one", one.number(), 0);
  }

  private static void everySignIsTaken() {
    for (int sign = 0; sign <= 127; sign++) {
      NumberScribe scribe = new NumberScribe();
      Check.due("type(" + sign + ")", scribe.type(sign), 1);
      Check.due("octet(0) of sign " + sign, scribe.octet(0), sign);
    }
  }

  private static void otherSignsAreRefused() {
    int[] others = {-1, 128, 255, 256, 48 + 65536, -48, Integer.MIN_VALUE, Integer.MAX_VALUE};
    NumberScribe scribe = Check.holding("a");
    for (int sign : others) {
      Check.due("type(" + sign + ")", scribe.type(sign), Check.REFUSED);
    }
    Check.dueText("refused signs", scribe, "a");
    Check.due("type after refused ones", scribe.type('b'), 2);
  }

  private static void eightySignsFit() {
    NumberScribe scribe = Check.holding("0123456789".repeat(8));
    Check.due("type of the 81st", scribe.type('x'), Check.REFUSED);
    Check.dueText("80 signs", scribe, "0123456789".repeat(8));
    Check.due("octet(79)", scribe.octet(79), '9');
    Check.due("octet(80)", scribe.octet(80), Check.REFUSED);
    Check.due("wipe() of 80", scribe.wipe(), 80);
    Check.due("type after wipe", scribe.type('x'), 1);
  }

  private static void wipeEmpties() {
    NumberScribe scribe = Check.holding("42");
    Check.due("read(0, 10)", scribe.read(0, 10), Check.READ);
    Check.due("wipe()", scribe.wipe(), 2);
    Check.dueText("wipe()", scribe, "");
    Check.due("number() after wipe()", scribe.number(), 42);
    Check.due("wipe() again", scribe.wipe(), 0);
    Check.due("read of what was wiped", scribe.read(0, 10), Check.NOT_A_NUMBER);
    Check.due("type after wipe()", scribe.type('z'), 1);
    Check.dueText("type after wipe()", scribe, "z");
  }

  private static void octetLooksAtPlaces() {
    NumberScribe scribe = Check.holding("abc");
    Check.due("octet(0)", scribe.octet(0), 'a');
    Check.due("octet(2)", scribe.octet(2), 'c');
    int[] others = {-1, 3, 79, 80, Integer.MIN_VALUE, Integer.MAX_VALUE};
    for (int k : others) {
      Check.due("octet(" + k + ")", scribe.octet(k), Check.REFUSED);
    }
  }
}
