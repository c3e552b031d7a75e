import java.math.BigDecimal;
import java.math.BigInteger;
import java.math.MathContext;
import java.math.RoundingMode;

/** Conversions of printf and scanf are made up, and done here as section 9 tells. */
public final class FormatTest {
  private static final int PROGRAMS = 250;
  private static final int CONVERSIONS = 20;

  private long state = 2997924580L;

  public static void main(String[] args) {
    FormatTest test = new FormatTest();
    for (int i = 0; i < PROGRAMS; i++) {
      test.printing();
      test.scanning();
    }
    Bench.finish();
  }

  private int random(int below) {
    state ^= state << 13;
    state ^= state >>> 7;
    state ^= state << 17;
    return (int) ((state >>> 1) % below);
  }

  private long number() {
    switch (random(6)) {
      case 0: return 0;
      case 1: return random(20) - 10;
      case 2: return state;
      case 3: return (int) state;
      case 4: return 1L << random(64);
      default: return random(100000) - 50000;
    }
  }

  private double real() {
    switch (random(8)) {
      case 0: return 0.0;
      case 1: return -0.0;
      case 2: return Double.POSITIVE_INFINITY * (random(2) == 0 ? 1 : -1);
      case 3: return (random(2000) - 1000) / 8.0;
      case 4: return (random(2000) - 1000) / 1000.0;
      case 5: return random(100) + 0.5;
      default:
        double d = Double.longBitsToDouble(state);
        return Double.isNaN(d) ? 9.995 : d;
    }
  }

  // Printing.

  private StringBuilder arguments;

  private void printing() {
    StringBuilder c = new StringBuilder("int main(void) {\n");
    StringBuilder want = new StringBuilder();
    for (int i = 0; i < CONVERSIONS; i++) {
      arguments = new StringBuilder();
      StringBuilder told = new StringBuilder("%");
      String put = conversion(told);
      c.append("printf(\"<").append(told).append(">\"").append(arguments).append(");\n");
      want.append('<').append(put).append('>');
    }
    String text = c.append("return 0; }\n").toString();
    Bench b = new Bench().source(text).runs(text, 100000, 0, 0);
    Bench.due(text, b.wrote(2), want.toString());
  }

  private String conversion(StringBuilder told) {
    StringBuilder flags = new StringBuilder();
    for (int n = random(4); n > 0; n--) {
      flags.append("-+ 0#".charAt(random(5)));
    }
    told.append(flags);
    boolean left = flags.indexOf("-") >= 0;
    int width = 0;
    if (random(2) == 0) {
      width = random(30);
      if (random(4) == 0) {
        boolean negative = random(3) == 0;
        left |= negative;
        told.append('*');
        arguments.append(", ").append(negative ? -width : width);
      } else if (width > 0) {
        told.append(width);
      }
    }
    int precision = -1;
    if (random(2) == 0) {
      precision = random(16);
      int way = random(4);
      if (way == 0) {
        precision = 0;
        told.append('.');
      } else if (way == 1) {
        boolean none = random(3) == 0;
        told.append(".*");
        arguments.append(", ").append(none ? -1 - precision : precision);
        precision = none ? -1 : precision;
      } else {
        told.append('.').append(random(5) == 0 ? "00" : "").append(precision);
      }
    }
    return finished(told, flags.toString(), left, width, precision);
  }

  private String finished(StringBuilder told, String flags, boolean left, int width, int precision) {
    String breadth = new String[] {"", "h", "hh", "l", "ll"}[random(5)];
    char letter = "diuoxXcspfFeE".charAt(random(13));
    told.append(breadth).append(letter);
    boolean wide = breadth.equals("ll");
    boolean zero = flags.contains("0") && !left;
    String sign = "";
    String prefix = "";
    String body;
    switch (letter) {
      case 'd': case 'i': {
        long n = wide ? number() : (int) number();
        arguments.append(", ").append(literal(n, wide));
        n = breadth.equals("hh") ? (byte) n : breadth.equals("h") ? (short) n : n;
        sign = n < 0 ? "-" : flags.contains("+") ? "+" : flags.contains(" ") ? " " : "";
        body = digits(BigInteger.valueOf(n).abs().toString(), n == 0, precision);
        zero &= precision < 0;
        break;
      }
      case 'u': case 'o': case 'x': case 'X': {
        long n = wide ? number() : (int) number();
        arguments.append(", ").append(literal(n, wide));
        long m = wide ? n : breadth.equals("hh") ? n & 255 : breadth.equals("h") ? n & 65535 : n & 0xffffffffL;
        String s = letter == 'u' ? Long.toUnsignedString(m) : letter == 'o' ? Long.toOctalString(m) : Long.toHexString(m);
        body = digits(letter == 'X' ? s.toUpperCase() : s, m == 0, precision);
        if (flags.contains("#") && letter == 'o' && !body.startsWith("0")) {
          body = "0" + body;
        } else if (flags.contains("#") && (letter == 'x' || letter == 'X') && m != 0) {
          prefix = "0" + letter;
        }
        zero &= precision < 0;
        break;
      }
      case 'c': {
        int n = 32 + random(95) + 256 * random(3);
        arguments.append(", ").append(n);
        body = "" + (char) (n & 255);
        zero = false;
        break;
      }
      case 's': {
        String s = "abcdefghijklmnop".substring(random(16));
        arguments.append(", \"").append(s).append("\"");
        body = precision >= 0 && precision < s.length() ? s.substring(0, precision) : s;
        zero = false;
        break;
      }
      case 'p': {
        long n = number() & 0xffffffffL;
        arguments.append(", (void *)").append(n).append("u");
        body = String.format("%08x", n);
        prefix = "0x";
        break;
      }
      default: {
        double d = real();
        arguments.append(", ").append(literal(d));
        boolean negative = Double.doubleToRawLongBits(d) < 0;
        sign = negative ? "-" : flags.contains("+") ? "+" : flags.contains(" ") ? " " : "";
        int decimals = precision < 0 ? 6 : precision;
        body = Double.isInfinite(d) ? "inf" : letter == 'f' || letter == 'F' ? fixed(Math.abs(d), decimals) : scientific(Math.abs(d), decimals, letter);
        if (flags.contains("#") && decimals == 0 && !Double.isInfinite(d)) {
          int e = body.indexOf(letter);
          body = e < 0 || letter == 'f' || letter == 'F' ? body + "." : body.substring(0, e) + "." + body.substring(e);
        }
        zero &= !Double.isInfinite(d);
      }
    }
    int room = width - sign.length() - prefix.length() - body.length();
    if (left) {
      return sign + prefix + body + " ".repeat(Math.max(room, 0));
    }
    return zero ? sign + prefix + "0".repeat(Math.max(room, 0)) + body : " ".repeat(Math.max(room, 0)) + sign + prefix + body;
  }

  private static String digits(String s, boolean isZero, int precision) {
    String body = isZero && precision == 0 ? "" : s;
    return "0".repeat(Math.max(precision - body.length(), 0)) + body;
  }

  private static String literal(long n, boolean wide) {
    if (n == Long.MIN_VALUE) {
      return "(-9223372036854775807ll - 1)";
    }
    return n == Integer.MIN_VALUE && !wide ? "(-2147483647 - 1)" : n + (wide ? "ll" : "");
  }

  /** A double goes behind the ... as its bits, which a long long has too. */
  private static String literal(double d) {
    return literal(Double.doubleToRawLongBits(d), true);
  }

  private static String fixed(double d, int decimals) {
    return new BigDecimal(d).setScale(decimals, RoundingMode.HALF_EVEN).toPlainString();
  }

  private static String scientific(double d, int decimals, char letter) {
    BigDecimal exact = new BigDecimal(d);
    String digits = "0".repeat(decimals + 1);
    int exponent = 0;
    if (exact.signum() != 0) {
      BigDecimal rounded = exact.round(new MathContext(decimals + 1, RoundingMode.HALF_EVEN));
      String all = rounded.unscaledValue().toString();
      exponent = all.length() - 1 - rounded.scale();
      digits = (all + "0".repeat(decimals + 1)).substring(0, decimals + 1);
    }
    String e = (Math.abs(exponent) < 10 ? "0" : "") + Math.abs(exponent);
    return digits.charAt(0) + (decimals > 0 ? "." + digits.substring(1) : "") + letter + (exponent < 0 ? "-" : "+") + e;
  }

  // Scanning.

  private static final String PARTS = "0123456789abcfgxX+-  \t\n%z";
  private String in;
  private int at;

  private int peek() {
    return at < in.length() ? in.charAt(at) : -1;
  }

  private static boolean isBlank(int c) {
    return c == ' ' || c >= 9 && c <= 13;
  }

  private void scanning() {
    StringBuilder input = new StringBuilder();
    for (int n = random(25); n > 0; n--) {
      input.append(PARTS.charAt(random(PARTS.length())));
    }
    in = input.toString();
    at = 0;
    byte[] memory = new byte[128];
    StringBuilder format = new StringBuilder();
    StringBuilder places = new StringBuilder();
    int stored = 0;
    boolean goesOn = true;
    boolean ended = false;
    int next = 0;
    for (int n = 1 + random(4); n > 0; n--) {
      if (random(6) == 0) {
        char c = PARTS.charAt(random(PARTS.length() - 2));
        format.append(c == '\t' ? "\\t" : c == '\n' ? "\\n" : "" + c);
        if (goesOn && isBlank(c)) {
          skipBlanks();
        } else if (goesOn) {
          ended = peek() < 0;
          goesOn = peek() == c;
          at += goesOn ? 1 : 0;
        }
        continue;
      }
      boolean stores = random(5) != 0;
      int width = random(3) == 0 ? random(5) : 0;
      String breadth = new String[] {"", "h", "hh", "l", "ll"}[random(5)];
      char letter = "duxcs".charAt(random(5));
      format.append(stores ? "%" : "%*").append(width > 0 ? "" + width : random(9) == 0 ? "0" : "").append(breadth).append(letter);
      int place = next;
      if (stores) {
        places.append(", m + ").append(place);
        next += 16;
      }
      if (goesOn) {
        int result = scan(letter, width, breadth, stores ? memory : null, place);
        ended = result < 0;
        goesOn = result > 0;
        stored += result > 0 && stores ? 1 : 0;
      }
    }
    int answer = !goesOn && ended && stored == 0 ? -1 : stored;
    compare(format.toString(), places.toString(), answer, memory);
  }

  private void compare(String format, String places, int answer, byte[] memory) {
    String program = "char m[128]; int main(void) { printf(\"%d %d\", scanf(\"" + format + "\"" + places + "), getchar()); return 0; }\n";
    Bench b = new Bench().input(in).source(program).runs(program, 100, 0, 0);
    Bench.due(program + in, b.wrote(2), answer + " " + peek());
    for (int i = 0; i < 128; i++) {
      Bench.due("byte " + i + " of " + program + in, b.x.memory(1024 + i) & 255, memory[i] & 255);
    }
    if (in.indexOf('\\') < 0) {
      String text = in.replace("\t", "\\t").replace("\n", "\\n");
      program = "char m[128]; int main(void) { printf(\"%d\", sscanf(\"" + text + "\", \"" + format + "\"" + places + ")); return 0; }\n";
      b = new Bench().source(program).runs(program, 100, 0, 0);
      Bench.due(program, b.wrote(2), "" + answer);
    }
  }

  private void skipBlanks() {
    while (isBlank(peek())) {
      at++;
    }
  }

  private int scan(char letter, int width, String breadth, byte[] to, int place) {
    if (letter != 'c') {
      skipBlanks();
    }
    if (peek() < 0) {
      return -1;
    }
    int left = width > 0 ? width : letter == 'c' ? 1 : 1000;
    if (letter == 'c' || letter == 's') {
      int n = 0;
      while (n < left && peek() >= 0 && (letter == 'c' || !isBlank(peek()))) {
        if (to != null && place + n < 128) {
          to[place + n] = (byte) peek();
        }
        n++;
        at++;
      }
      if (letter == 's' && to != null && place + n < 128) {
        to[place + n] = 0;
      }
      return letter == 's' || n == left ? 1 : 0;
    }
    boolean minus = peek() == '-';
    if (minus || peek() == '+') {
      at++;
      left--;
    }
    StringBuilder digits = new StringBuilder();
    boolean prefix = false;
    while (left > 0 && peek() >= 0) {
      char c = (char) peek();
      if (Character.digit(c, letter == 'x' ? 16 : 10) >= 0) {
        digits.append(c);
      } else if (letter == 'x' && !prefix && digits.toString().equals("0") && (c == 'x' || c == 'X')) {
        prefix = true;
      } else {
        break;
      }
      at++;
      left--;
    }
    if (digits.length() == 0) {
      return 0;
    }
    long value = new BigInteger(digits.toString(), letter == 'x' ? 16 : 10).longValue() * (minus ? -1 : 1);
    int size = breadth.equals("hh") ? 1 : breadth.equals("h") ? 2 : breadth.equals("ll") ? 8 : 4;
    for (int i = 0; i < size && to != null; i++) {
      to[place + i] = (byte) (value >> 8 * i);
    }
    return 1;
  }
}
