/** What the document asks for, told by the Java library, with THE TEXT as a String. */
final class Model {
  private interface Reading {
    long read();
  }

  private String text = "";
  private long number = 0;

  int type(int sign) {
    if (sign < 0 || sign > 127 || text.length() == 80) {
      return Check.REFUSED;
    }
    text += (char) sign;
    return text.length();
  }

  int wipe() {
    int had = text.length();
    text = "";
    return had;
  }

  int octet(int k) {
    return k >= 0 && k < text.length() ? text.charAt(k) : Check.REFUSED;
  }

  int write(int way, long v, int base) {
    if (way < 0 || way > 3 || base < 2 || base > 36) {
      return Check.REFUSED;
    }
    String[] ways = {
      Integer.toString((int) v, base),
      Long.toString(v, base),
      Integer.toUnsignedString((int) v, base),
      Long.toUnsignedString(v, base)
    };
    text = ways[way];
    return text.length();
  }

  int based(int way, long v) {
    if (way < 0 || way > 5) {
      return Check.REFUSED;
    }
    String[] ways = {
      Integer.toBinaryString((int) v),
      Integer.toOctalString((int) v),
      Integer.toHexString((int) v),
      Long.toBinaryString(v),
      Long.toOctalString(v),
      Long.toHexString(v)
    };
    text = ways[way];
    return text.length();
  }

  int read(int way, int base) {
    if (way < 0 || way > 3 || base < 2 || base > 36) {
      return Check.REFUSED;
    }
    Reading[] ways = {
      () -> Integer.parseInt(text, base),
      () -> Long.parseLong(text, base),
      () -> Integer.parseUnsignedInt(text, base),
      () -> Long.parseUnsignedLong(text, base)
    };
    return kindOf(ways[way]);
  }

  int piece(int way, int from, int to, int base) {
    boolean places = from >= 0 && from <= to && to <= text.length();
    if (way < 0 || way > 1 || base < 2 || base > 36 || !places) {
      return Check.REFUSED;
    }
    Reading[] ways = {
      () -> Integer.parseInt(text.substring(from, to), base),
      () -> Long.parseLong(text.substring(from, to), base)
    };
    return kindOf(ways[way]);
  }

  int decode(int way) {
    if (way < 0 || way > 1) {
      return Check.REFUSED;
    }
    Reading[] ways = {() -> Integer.decode(text), () -> Long.decode(text)};
    return kindOf(ways[way]);
  }

  long number() {
    return number;
  }

  String text() {
    return text;
  }

  private int kindOf(Reading reading) {
    try {
      number = reading.read();
      return Check.READ;
    } catch (NumberFormatException none) {
      return Check.NOT_A_NUMBER;
    }
  }
}
