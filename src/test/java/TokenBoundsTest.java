/** The boundary cases of section 3 (integers, floating numbers, characters, strings), sentence by sentence. */
public final class TokenBoundsTest {
  public static void main(String[] args) {
    keywords();
    integerTypes();
    integerForms();
    unsignedForms();
    floatingForms();
    floatingWorths();
    generatedWorths();
    exponents();
    factors();
    hexadecimalWorths();
    floats();
    characters();
    escapes();
    strings();
    firstFromTheLeft();
    Bench.finish();
  }

  private static void wrong(String token) {
    Bench.faults("int x =\n0;\nint y = (" + token + ");\n09", 2, 3);
  }

  /** "KEYWORDS: auto break .. while. All other names are IDENTIFIERS. A # or ## left: fault." */
  private static void keywords() {
    String all = "auto break case char const continue default do double else enum extern float for goto if inline int long register restrict return short signed"
        + " sizeof static struct switch typedef union unsigned void volatile while";
    for (String word : all.split(" ")) {
      Bench b = new Bench().source("int main(void) {\n struct { int\n " + word + "; } s; }");
      int code = b.x.compile();
      Bench.due("a member called " + word, code, 3);
      Bench.due("its line", b.x.faultLine(), 3);
      Bench.exits("int main(void) { int " + word + "_ = 1, _" + word + " = 2, " + word.toUpperCase() + " = 4; return " + word + "_ + _" + word + " + " + word.toUpperCase() + "; }", 7);
    }
    for (String name : "asm fortran typeof _Bool _Complex bool true false define include defined entry near far __LINE NAN main va_start offsetof".split(" ")) {
      if (!name.equals("main")) {
        Bench.exits("int main(void) { int " + name + " = 3; return " + name + "; }", 3);
      }
    }
    Bench.faults("int x; # y", 2, 1);
    Bench.faults("int x;\n\n(##", 2, 3);
  }

  /** "The type is the first of these that holds the value: without u: int, (not decimal: unsigned), long long, (not decimal: unsigned long long); with ll ..". */
  private static void integerTypes() {
    String[][] types = {
      {"0", "i"}, {"2147483647", "i"}, {"2147483648", "l"}, {"4294967295", "l"}, {"4294967296", "l"}, {"9223372036854775807", "l"},
      {"0x7fffffff", "i"}, {"0x80000000", "u"}, {"0xffffffff", "u"}, {"0x100000000", "l"}, {"0x7fffffffffffffff", "l"}, {"0x8000000000000000", "q"}, {"0xffffffffffffffff", "q"},
      {"017777777777", "i"}, {"020000000000", "u"}, {"037777777777", "u"}, {"040000000000", "l"}, {"0777777777777777777777", "l"}, {"01000000000000000000000", "q"},
      {"01777777777777777777777", "q"}, {"0u", "u"}, {"4294967295u", "u"}, {"4294967296u", "q"}, {"18446744073709551615u", "q"}, {"0xffffffffU", "u"}, {"0x100000000U", "q"},
      {"0l", "i"}, {"2147483647L", "i"}, {"2147483648l", "l"}, {"0x80000000l", "u"}, {"1ul", "u"}, {"1lu", "u"}, {"4294967296lu", "q"}, {"0ll", "l"}, {"1LL", "l"}, {"9223372036854775807ll", "l"},
      {"0xffffffffll", "l"}, {"0x8000000000000000ll", "q"}, {"0x7fffffffffffffffLL", "l"}, {"0ull", "q"}, {"1llu", "q"}, {"1LLU", "q"}, {"1uLL", "q"}, {"18446744073709551615ull", "q"}
    };
    for (String[] type : types) {
      boolean wide = type[1].equals("l") || type[1].equals("q");
      boolean unsigned = type[1].equals("u") || type[1].equals("q");
      Bench.exits("int main(void) { return sizeof " + type[0] + " + 16 * (" + type[0] + " * 0 - 1 > 0); }", (wide ? 8 : 4) + (unsigned ? 16 : 0));
      Bench.exits("char a[sizeof(" + type[0] + ")]; enum { E = " + type[0] + " * 0 - 1 > 0 }; int main(void) { return sizeof a + 16 * E; }", (wide ? 8 : 4) + (unsigned ? 16 : 0));
    }
    Bench.exits("long long a = 9223372036854775807; unsigned long long b = 18446744073709551615u, c = 01777777777777777777777; int main(void) { return a == LLONG_MAX && b == -1ull && c == b; }", 1);
  }

  /** "decimal (no 0 first), 0 and octal digits, 0x or 0X and hexadecimal digits; then perhaps u or U, and l, L, ll or LL, in either order". "None holds it: fault." */
  private static void integerForms() {
    for (String bad : "1x1 9xf 1t 1T 1v 1k 1m 08 09 018 0x 0X 0xg 0xu 0b1 1a 1lul 1ulu 1uu 1lll 1lL 1Ll 1LLl 1llL 1ulL 1lLu 1uLl 1_ 1x 12f 0f 00x1 0x1.8 0x.p1 1u1 0u0 08u 0789 1ll1 1h 0xx1 0x1h".split(" ")) {
      wrong(bad);
    }
    for (String bad : "9223372036854775808 9223372036854775808l 9223372036854775808ll 18446744073709551615 18446744073709551616 18446744073709551616u 18446744073709551616ull 99999999999999999999 0x10000000000000000 02000000000000000000000 100000000000000000000000000000000u".split(" ")) {
      wrong(bad);
    }
    String[][] same = {{"00", "0"}, {"000017", "15"}, {"0x0001f", "31"}, {"0XaB", "171"}, {"0xAb", "171"}, {"0x000000000000000000000000000000001", "1"}, {"000000000000000000000000000000000001", "1"}, {"10U", "10"}, {"10L", "10"},
        {"10Ul", "10"}, {"10lU", "10"}, {"10uLL", "10"}, {"10llU", "10"}, {"0xfu", "15"}, {"0xfull", "15"}, {"07ull", "7"}, {"0xFl", "15"}};
    for (String[] two : same) {
      Bench.exits("int main(void) { return " + two[0] + "; }", Integer.parseInt(two[1]));
    }
  }

  private static void unsignedForms() {
    Bench.exits("int main(void) { return (1u - 2 > 0) + 2 * (1ul - 2 > 0) + 4 * (1lu - 2 > 0) + 8 * (1ull - 2 > 0) + 16 * (1l - 2 > 0) + 32 * (1ll - 2 > 0); }", 15);
  }

  /** "FLOATING: digits with a ., or an exponent e E with perhaps a sign and at least one digit, or both; or 0x ..; then perhaps f F or l L". "Any other number: fault." */
  private static void floatingForms() {
    for (String bad : "1.2.3 1e 1e+ 1e- 1E 1.e .5e 1e5u 1.0u 1.0ll 1.0ff 1.0lf 1.0fl 1e5x 1ee5 1e5e5 1e5.0 1e+5+5 1.0a 0x1.8 0x.8 0x.p1 0xp1 0x1p 0x1p+ 0x1p- 0x1.p 0x1pf 0x1.8p1u 0x1p1.0 0x1p1p1 1p5 1.0p5 0x1.2.3p1 1.0_ 0x1p1x 1.f.f".split(" ")) {
      wrong(bad.replace("1e+5+5", "1e+5e+5"));
    }
    String[][] same = {{"1.", "1"}, {".5", "0.5"}, {"0.", "0"}, {"00.5", "0.5"}, {"09.5", "9.5"}, {"08e0", "8"}, {"1e2", "100"}, {"1E2", "100"}, {"1e+2", "100"}, {"100e-2", "1"}, {"1.5e1", "15"}, {"1.e1", "10"}, {".5e1", "5"}, {"1.5l", "1.5"},
        {"1.5L", "1.5"}, {"0x1p4", "16"}, {"0x1P4", "16"}, {"0X1p+4", "16"}, {"0x10p-4", "1"}, {"0x1.8p1", "3"}, {"0x.8p1", "1"}, {"0x1.p0", "1"}, {"0x1p1l", "2"}, {"0xap0", "10"}, {"0xFp0L", "15"}, {"0e5", "0"}, {"0x0p5", "0"}, {"1e00002", "100"}};
    for (String[] two : same) {
      Bench b = Bench.exits("double x = " + two[0] + "; int main(void) { return sizeof(" + two[0] + "); }", 8);
      bits(b, two[0], Double.parseDouble(two[1]));
      b = Bench.exits("double x = " + two[0].replaceAll("[lL]$", "") + "f; int main(void) { return sizeof(" + two[0].replaceAll("[lL]$", "") + "F); }", 4);
      bits(b, two[0] + "f", Float.parseFloat(two[1]));
    }
  }

  private static void bits(Bench b, String what, double want) {
    long due = Double.doubleToRawLongBits(want);
    Bench.due(what + " low", b.x.memory(1024), (int) due);
    Bench.due(what + " high", b.x.memory(1028), (int) (due >>> 32));
  }

  /** What section 3 says that a floating constant is worth. */
  private static double worth(String s) {
    boolean hexadecimal = s.startsWith("0x");
    int base = hexadecimal ? 16 : 10;
    int most = hexadecimal ? 15 : 18;
    int at = hexadecimal ? 2 : 0;
    java.math.BigInteger whole = java.math.BigInteger.ZERO;
    int kept = 0;
    long e = 0;
    boolean point = false;
    for (; at < s.length(); at++) {
      char c = s.charAt(at);
      if (c == '.') {
        point = true;
        continue;
      }
      int digit = Character.digit(c, base);
      if (digit < 0) {
        break;
      }
      e -= point ? 1 : 0;
      if (kept == 0 && digit == 0) {
        continue;
      }
      if (kept < most) {
        whole = whole.multiply(java.math.BigInteger.valueOf(base)).add(java.math.BigInteger.valueOf(digit));
        kept++;
      } else {
        e++;
      }
    }
    e *= hexadecimal ? 4 : 1;
    if (at < s.length()) {
      e += Long.parseLong(s.substring(at + 1));
    }
    double result = whole.longValueExact();
    for (long n = 0; n < Math.min(Math.abs(e), 400); n++) {
      double factor = hexadecimal ? 2.0 : 10.0;
      result = e > 0 ? result * factor : result / factor;
    }
    return result;
  }

  private static void hasWorth(String constant) {
    Bench b = Bench.exits("double x = " + constant + "; int main(void) { return 0; }", 0);
    bits(b, constant, worth(constant));
  }

  /** "The worth: the first 18 digits that count (from the first that is not 0) as a whole number, made a double; E is the exponent told, less the digits behind the ., plus the digits left out at the end". */
  private static void floatingWorths() {
    String digits = "123456789123456789123456789";
    for (int n = 1; n <= digits.length(); n++) {
      hasWorth(digits.substring(0, n) + ".0");
      hasWorth(digits.substring(0, n) + "e0");
      hasWorth("0." + digits.substring(0, n));
      hasWorth("0.000000000000000000000000" + digits.substring(0, n));
      hasWorth("000000000000000000000000" + digits.substring(0, n) + ".5");
      hasWorth("1" + "0".repeat(n) + ".0");
      hasWorth("1" + "0".repeat(n) + ".1");
      hasWorth("9".repeat(n) + ".9");
    }
    // The 18th digit counts, the 19th does not.
    hasWorth("100000000000000001.0");
    hasWorth("100000000000000099.0");
    hasWorth("1000000000000000999.0");
    hasWorth("999999999999999999e-18");
    hasWorth("9999999999999999999e-19");
    hasWorth("0.1");
    hasWorth("0.3");
    hasWorth("2.5e-3");
    hasWorth("1.7976931348623157e308");
    hasWorth("4.9e-324");
    hasWorth("2.2250738585072014e-308");
  }

  private static void generatedWorths() {
    long state = 12345;
    for (int i = 0; i < 300; i++) {
      StringBuilder s = new StringBuilder();
      state = state * 6364136223846793005L + 1442695040888963407L;
      int length = (int) (state >>> 33) % 25 + 1;
      int point = (int) (state >>> 20 & 31);
      for (int k = 0; k < length; k++) {
        state = state * 6364136223846793005L + 1442695040888963407L;
        if (k == point) {
          s.append('.');
        }
        s.append((state >>> 60) < 5 ? 0 : (state >>> 40) % 10);
      }
      state = state * 6364136223846793005L + 1442695040888963407L;
      s.append('e').append((int) (state >>> 40) % 340 * ((state & 256) == 0 ? 1 : -1));
      hasWorth(s.toString());
    }
  }

  /** "Exponents may have any number of digits (E counts them all; 400 is the most of factors)." */
  private static void exponents() {
    hasWorth("1e0000000000000000000000000000000002");
    hasWorth("1e-0000000000000000000000000000000002");
    for (String infinite : new String[] {"1e400", "1e99999999999999999999", "1e309", "1e310"}) {
      Bench b = Bench.exits("double x = " + infinite + "; int main(void) { return x > 1e308; }", 1);
      bits(b, infinite, Double.POSITIVE_INFINITY);
    }
    for (String nothing : new String[] {"1e-400", "1e-99999999999999999999", "0e99999999999999999999", "0.0e400", "0e-5"}) {
      Bench b = Bench.exits("double x = " + nothing + "; int main(void) { return x == 0; }", 1);
      bits(b, nothing, 0.0);
    }
    Bench b = Bench.exits("double x = 0." + "0".repeat(500) + "1e501; int main(void) { return 0; }", 0);
    bits(b, "many digits behind the . and a great exponent", 1.0);
    b = Bench.exits("double x = 1" + "0".repeat(500) + "e-500; int main(void) { return 0; }", 0);
    bits(b, "many digits and a small exponent", 1.0);
  }

  /** "multiplied by 10.0 E times, or divided by 10.0 -E times, one after the other, at most 400 times". */
  private static void factors() {
    hasWorth("123456789123456789e-340");
    hasWorth("1e-323");
    hasWorth("123456789e-330");
    // E is -401 and -400: only 400 divisions are made. 10 to the 17 divided 400 times is 0 in both cases, so the hexadecimal ones tell.
    Bench b = Bench.exits("double x = 0xfffffffffffffffp-1000; int main(void) { return 0; }", 0);
    bits(b, "400 times halved", (double) 0xfffffffffffffffL * Math.pow(2, -400));
    b = Bench.exits("double x = 0x1p-400; int main(void) { return 0; }", 0);
    bits(b, "400", Math.pow(2, -400));
    b = Bench.exits("double x = 0x1p-401; int main(void) { return 0; }", 0);
    bits(b, "401", Math.pow(2, -400));
    b = Bench.exits("double x = 0x1p-399; int main(void) { return 0; }", 0);
    bits(b, "399", Math.pow(2, -399));
    b = Bench.exits("double x = 0x1p400; int main(void) { return 0; }", 0);
    bits(b, "400 times doubled", Math.pow(2, 400));
    b = Bench.exits("double x = 0x1p401; int main(void) { return 0; }", 0);
    bits(b, "not 401 times", Math.pow(2, 400));
    b = Bench.exits("double x = 0x1p1023; int main(void) { return 0; }", 0);
    bits(b, "not 1023 times", Math.pow(2, 400));
  }

  /** "(hexadecimal: the first 15 digits, 2.0, and 4 for each digit)". */
  private static void hexadecimalWorths() {
    for (String s : new String[] {"0x123456789abcdefp0", "0x123456789abcdef1p0", "0xfffffffffffffffp0", "0xffffffffffffffffp0", "0x1.8p0", "0x0.00000000000000000000001p0", "0x1.23456789abcdef012p5", "0xabc.defp-7",
        "0x100000000000000000p0", "0x1.000000000000000001p0", "0x00000000000000000000001p3", "0x.1p0", "0x.01p4"}) {
      hasWorth(s);
    }
  }

  /** "then perhaps f F (type float) or l L (nothing); else double"; "for f the double is cast to float". */
  private static void floats() {
    Bench b = Bench.exits("double x = 0.1f; int main(void) { return sizeof 0.1f + sizeof 0.1F * 4 + sizeof 0.1 * 2 + sizeof 0.1l + sizeof 0.1L; }", 4 + 16 + 16 + 8 + 8);
    bits(b, "0.1f", 0.1f);
    b = Bench.exits("double x = 16777217.0f; int main(void) { return 0; }", 0);
    bits(b, "16777217.0f", 16777216.0);
    b = Bench.exits("double x = 3.5e38f; int main(void) { return 0; }", 0);
    bits(b, "3.5e38f", Double.POSITIVE_INFINITY);
    b = Bench.exits("double x = 1e-46f; int main(void) { return 0; }", 0);
    bits(b, "1e-46f", 0.0);
    b = Bench.exits("double x = 1e-45f; int main(void) { return 0; }", 0);
    bits(b, "1e-45f", Float.MIN_VALUE);
    b = Bench.exits("double x = 1.00000017881393432617187499f; int main(void) { return 0; }", 0);
    bits(b, "by way of a double", (float) worth("1.00000017881393432617187499"));
  }

  /** "CHARACTERS: exactly one byte or escape between the '; type int, the byte as a char." */
  private static void characters() {
    for (String bad : new String[] {"''", "'ab'", "'\\n1'", "'\\1234'", "'\\x123'", "'\\0\\0'", "'  '", "'\\18'", "'\\xag'"}) {
      wrong(bad);
    }
    for (int c = 32; c < 127; c++) {
      if (c != '\'' && c != '\\' && c != '?') {
        Bench.exits("int main(void) { return sizeof '" + (char) c + "' == 4 && '" + (char) c + "' == " + c + "; }", 1);
      }
    }
    Bench.exits("int main(void) { return '\t' == 9 && '?' == 63 && '\"' == 34 && '\\?' == 63; }", 1);
    Bench.exits("int main(void) { return '\\177' == 127 && '\\200' == -128 && '\\377' == -1 && '\\x7f' == 127 && '\\x80' == -128 && '\\xff' == -1; }", 1);
  }

  /** "ESCAPES: \n \t \r \a \b \f \v \\ \' \" \? \ and one to three octal digits, \x and one or two hexadecimal digits (as many as two); the lowest 8 bits count. Others: fault." */
  private static void escapes() {
    String letters = "ntrabfv\\'\"?";
    int[] worths = {10, 9, 13, 7, 8, 12, 11, 92, 39, 34, 63};
    for (int c = 33; c < 127; c++) {
      int which = letters.indexOf(c);
      boolean octal = c >= '0' && c <= '7';
      if (which >= 0 || octal) {
        Bench.exits("int main(void) { return '\\" + (char) c + "'; }", octal ? c - '0' : worths[which]);
        Bench.exits("int main(void) { return \"\\" + (char) c + "\"[0]; }", octal ? c - '0' : worths[which]);
      } else {
        wrong("'\\" + (char) c + "'");
        wrong("\"\\" + (char) c + "\"[0]");
      }
    }
    wrong("'\\ '");
    wrong("'\\x'");
    wrong("'\\xg'");
    wrong("'\\x g'");
    wrong("'\\X41'");
    wrong("\"\\x\"");
    String[][] same = {{"\\0", "0"}, {"\\7", "7"}, {"\\12", "10"}, {"\\123", "83"}, {"\\377", "-1"}, {"\\400", "0"}, {"\\777", "-1"}, {"\\501", "65"}, {"\\x0", "0"}, {"\\x4", "4"}, {"\\x41", "65"}, {"\\xFF", "-1"}, {"\\xfF", "-1"}, {"\\x00", "0"},
        {"\\000", "0"}};
    for (String[] two : same) {
      Bench.exits("int main(void) { return '" + two[0] + "' == " + two[1] + "; }", 1);
    }
    Bench.exits("char s[] = \"\\1234\\x4142\\08\\18\\x4g\\0009\"; int main(void) { return sizeof s == 14 && s[0] == 83 && s[1] == '4' && s[2] == 'A' && s[3] == '4' && s[4] == '2' && s[5] == 0 && s[6] == '8'"
        + " && s[7] == 1 && s[8] == '8' && s[9] == 4 && s[10] == 'g' && s[11] == 0 && s[12] == '9'; }", 1);
  }

  /** "STRINGS that follow each other are one. A string is an array of char with a 0 at its end." */
  private static void strings() {
    Bench.exits("int main(void) { return sizeof \"\" + sizeof \"a\" * 2 + sizeof \"a\" \"b\" * 4 + sizeof \"\" \"\" * 16; }", 1 + 4 + 12 + 16);
    Bench.exits("int main(void) { return \"\\x4\" \"1\"[1] == '1' && \"\\1\" \"2\"[0] == 1 && sizeof \"\\x4\" \"1\" == 3; }", 1);
    Bench.exits("int main(void) { char *s = \"a\"\n \"b\" /* */ \"c\"; return s[0] == 'a' && s[1] == 'b' && s[2] == 'c' && s[3] == 0; }", 1);
    Bench.exits("#define S \"x\"\nint main(void) { return sizeof S S \"\" S; }", 4);
    Bench b = Bench.exits("char *p = \"ab\" \"\" \"c\"; int main(void) { return 0; }", 0);
    Bench.due("one string in memory", b.x.about(2), 1);
    Bench.due("its bytes", b.x.memory(1028), 'a' | 'b' << 8 | 'c' << 16);
    Bench.faults("char *p = \"a\"\n\"\\8\";", 2, 2);
    Bench.faults("char *p =\n\"a\"\n\"b\" +;", 3, 3);
    Bench.faults("char *p = (\n\"a\"\n\"b\";", 3, 3);
    Bench.faults("char *p = 1\n\"a\"\n\"b\";", 3, 2);
  }

  /** "TOKENS (fault 2, the first from the left)"; "All tokens of the whole are made ahead of any syntax". */
  private static void firstFromTheLeft() {
    Bench.faults("int x = 'ab';\nint y = 08;", 2, 1);
    Bench.faults("int x = 08;\nint y = 'ab';", 2, 1);
    Bench.faults(") ) )\nint int\n#\n\n08", 2, 5);
    Bench.faults("int x = y;\n\n'\\q'", 2, 3);
    Bench.faults("( ".repeat(50) + "\n#define X\n##", 2, 3);
    Bench.faults("char x[240000];\nint main(void) { return 0; }\n0x", 2, 3);
    Bench.faults("int x = 08;\n#error", 1, 2);
    Bench.faults("int x = 08;\n#define F(x) x\nF(", 1, 3);
    new Bench().header("h", "int y = 'ab';").source("#include \"h\"\nint x = 08;").refused("as they stand in the whole", 2, 1, 1);
  }
}
