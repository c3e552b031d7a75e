/** Integers, floating numbers, characters and strings. */
public final class TokensTest {
  public static void main(String[] args) {
    integers();
    greatIntegers();
    floating();
    characters();
    strings();
    order();
    Bench.finish();
  }

  private static void wrong(String token) {
    Bench.faults("int main(void) {\n return\n " + token + "; }", 2, 3);
  }

  private static void integers() {
    Bench.writes("int main(void) { printf(\"%d %d %d %d %d %u %u\", 0, 00, 017, 0x1F, 0Xff, 4294967295u, 0xffffffff); }",
        "0 0 15 31 255 4294967295 4294967295");
    Bench.writes("int main(void) { printf(\"%lld %llu %lld %llx\", 9223372036854775807, 18446744073709551615u, 2147483648, "
        + "0xffffffffffffffff); }", "9223372036854775807 18446744073709551615 2147483648 ffffffffffffffff");
    String[][] sizes = {
      {"1", "4", "1"}, {"2147483647", "4", "1"}, {"2147483648", "8", "1"}, {"0x7fffffff", "4", "1"}, {"0x80000000", "4", "0"},
      {"0xffffffff", "4", "0"}, {"0x100000000", "8", "1"}, {"0x8000000000000000", "8", "0"}, {"1u", "4", "0"}, {"1l", "4", "1"},
      {"1L", "4", "1"}, {"1ll", "8", "1"}, {"1LL", "8", "1"}, {"1ull", "8", "0"}, {"1llu", "8", "0"}, {"1lu", "4", "0"}, {"1UL", "4", "0"},
      {"4294967296u", "8", "0"}, {"037777777777", "4", "0"}, {"020000000000", "4", "0"}, {"017777777777", "4", "1"}, {"0ll", "8", "1"},
      {"9223372036854775807ll", "8", "1"}, {"0xffffffffffffffffll", "8", "0"}, {"4294967295", "8", "1"}, {"4294967295l", "8", "1"},
      {"'a'", "4", "1"}
    };
    for (String[] row : sizes) {
      Bench.exits("int main(void) { return sizeof " + row[0] + " * 2 + (-1 - 0 * " + row[0] + " < 0); }",
          Integer.parseInt(row[1]) * 2 + Integer.parseInt(row[2]));
    }
    for (String bad : new String[] {"08", "0x", "0xg", "1x", "1lL", "1Ll", "1uu", "1lul", "1lll", "0b1", "9223372036854775808",
        "9223372036854775808ll", "18446744073709551616u", "0x10000000000000000", "02000000000000000000000", "1_0", "1a"}) {
      wrong(bad);
    }
  }

  /** Constants at the end of what 64 bits hold, and behind it; each kind of digits, with and without letters. */
  private static void greatIntegers() {
    String[][] held = {
      {"9223372036854775807", "7fffffffffffffff", "1"}, {"9223372036854775808u", "8000000000000000", "0"},
      {"18446744073709551614u", "fffffffffffffffe", "0"}, {"18446744073709551615u", "ffffffffffffffff", "0"},
      {"18446744073709551615ull", "ffffffffffffffff", "0"}, {"18446744073709551615LU", "ffffffffffffffff", "0"},
      {"01777777777777777777777", "ffffffffffffffff", "0"}, {"01777777777777777777777ll", "ffffffffffffffff", "0"},
      {"01777777777777777777777u", "ffffffffffffffff", "0"}, {"00001777777777777777777777", "ffffffffffffffff", "0"},
      {"01000000000000000000000", "8000000000000000", "0"}, {"0777777777777777777777", "7fffffffffffffff", "1"},
      {"0xffffffffffffffff", "ffffffffffffffff", "0"}, {"0XFFFFFFFFFFFFFFFFULL", "ffffffffffffffff", "0"},
      {"0x0000000000ffffffffffffffff", "ffffffffffffffff", "0"}, {"0x8000000000000000", "8000000000000000", "0"},
      {"0x7fffffffffffffff", "7fffffffffffffff", "1"}
    };
    for (String[] row : held) {
      Bench.writes("int main(void) { printf(\"%016llx %d %d\", " + row[0] + ", sizeof " + row[0] + ", -1 - 0 * " + row[0] + " < 0); }",
          row[1] + " 8 " + row[2]);
    }
    for (String bad : new String[] {"9223372036854775808", "18446744073709551615", "18446744073709551615ll", "18446744073709551616",
        "18446744073709551616u", "18446744073709551616ull", "18446744073709551619u", "18446744073709551620u", "18446744073709551625u",
        "27670116110564327424u", "36893488147419103232u", "184467440737095516150u", "184467440737095516160u",
        "340282366920938463463374607431768211456u", "02000000000000000000000", "02000000000000000000000ull", "03777777777777777777777",
        "017777777777777777777770", "0x10000000000000000", "0x10000000000000000ull", "0x1ffffffffffffffff", "0xffffffffffffffff0",
        "0x100000000000000000000000000000000"}) {
      wrong(bad);
    }
    Bench.faults("#if 18446744073709551616u\n#endif\nint main(void) { return 0; }", 1, 1);
    Bench.faults("#if 1\n#if 0x10000000000000000\n#endif\n#endif\nint main(void) { return 0; }", 1, 2);
    Bench.exits("#if 18446744073709551615u == -1 && 0xffffffffffffffff == 01777777777777777777777\nint main(void) { return 7; }\n#endif\n", 7);
  }

  private static void floating() {
    String[][] worths = {
      {"1.", "3ff0000000000000"}, {".5", "3fe0000000000000"}, {"1e0", "3ff0000000000000"}, {"1E+2", "4059000000000000"},
      {"25e-2", "3fd0000000000000"}, {"010.0", "4024000000000000"}, {"09e1", "4056800000000000"}, {"1.5L", "3ff8000000000000"},
      {"0x1p0", "3ff0000000000000"}, {"0x.8p1", "3ff0000000000000"}, {"0X1.8P-1", "3fe8000000000000"}, {"0xap0", "4024000000000000"},
      {"0x1p-400", "26f0000000000000"}, {"0x1p-1074", "26f0000000000000"}, {"0x1p400", "58f0000000000000"},
      {"0x1p401", "58f0000000000000"}, {"1e308", null}, {"1e400", "7ff0000000000000"}, {"1e99999999999999999999", "7ff0000000000000"},
      {"0e99999999999999999999", "0000000000000000"}, {"1e-99999999999999999999", "0000000000000000"},
      {"1000000000000000000000e-21", null}, {"0.0000000000000000000001e22", null}, {"123456789012345678901234567890.0", null},
      {"0x123456789abcdef01p0", null}, {"1.0000000000000000000000000000000000000e1", "4024000000000000"}, {"0.1", null},
      {"3.3", null}, {"1e-5", null}, {"1e22", null}, {"1e23", null}, {"0.30000000000000000000000000004", null}
    };
    for (String[] row : worths) {
      String want = row[1] != null ? row[1] : String.format("%016x", Double.doubleToRawLongBits(worth(row[0])));
      Bench.writes("union { double d; unsigned long long q; } u; int main(void) { u.d = " + row[0] + "; printf(\"%016llx\", u.q); }",
          want);
    }
    Bench.exits("int main(void) { return sizeof 1.0 * 100 + sizeof 1.0f * 10 + sizeof 1.0l; }", (800 + 40 + 8) & 255);
    Bench.writes("union { float f; unsigned u; } u; int main(void) { u.f = 0.1f; printf(\"%x\", u.u); u.f = 1e39f; printf(\" %x\", u.u); }",
        "3dcccccd 7f800000");
    for (String bad : new String[] {"1.0.0", "1e", "1e+", "1.5u", "1.5ff", "1.5ll", "0x1.8", "0xp1", "0x.p1", "1p3", "0x1.8p", "1e5.0",
        "1.e", "0x1e5f.0", ".5.", "1ef", "1f"}) {
      wrong(bad);
    }
  }

  /** What the document says of decimal and hexadecimal numbers, with whole numbers of any size. */
  private static double worth(String text) {
    boolean hexadecimal = text.startsWith("0x");
    String rest = hexadecimal ? text.substring(2) : text;
    int cut = rest.indexOf(hexadecimal ? 'p' : 'e');
    String digits = cut < 0 ? rest : rest.substring(0, cut);
    long e = cut < 0 ? 0 : Long.parseLong(rest.substring(cut + 1));
    int each = hexadecimal ? 4 : 1;
    if (digits.indexOf('.') >= 0) {
      e -= (long) each * (digits.length() - 1 - digits.indexOf('.'));
      digits = digits.replace(".", "");
    }
    digits = digits.replaceFirst("^0+", "");
    int most = hexadecimal ? 15 : 18;
    if (digits.length() > most) {
      e += (long) each * (digits.length() - most);
      digits = digits.substring(0, most);
    }
    double d = digits.isEmpty() ? 0 : (double) Long.parseLong(digits, hexadecimal ? 16 : 10);
    for (long n = 0; n < Math.min(Math.abs(e), 400); n++) {
      d = e > 0 ? d * (hexadecimal ? 2.0 : 10.0) : d / (hexadecimal ? 2.0 : 10.0);
    }
    return d;
  }

  private static void characters() {
    Bench.writes("int main(void) { printf(\"%d %d %d %d %d %d %d %d\", '\\n', '\\t', '\\r', '\\a', '\\b', '\\f', '\\v', '\\\\'); }",
        "10 9 13 7 8 12 11 92");
    Bench.writes("int main(void) { printf(\"%d %d %d %d %d %d %d %d\", '\\'', '\\\"', '\"', '\\?', '\\0', '\\101', '\\x41', '\\x7'); }",
        "39 34 34 63 0 65 65 7");
    Bench.writes("int main(void) { printf(\"%d %d %d %d %d\", '\\377', '\\400', '\\777', '\\xff', '\t'); }", "-1 0 -1 -1 9");
    for (String bad : new String[] {"''", "'ab'", "'\\x'", "'\\xg'", "'\\x414'", "'\\1234'", "'\\8'", "'\\q'", "'a\\n'", "'\\e'", "'\\X41'"}) {
      wrong(bad);
    }
  }

  private static void strings() {
    Bench.writes("int main(void) { fputs(\"a\" \"b\"\n \"c\\x414\" \"\\1234\" \"\\x4\" \"1\", stdout); }", "abcA4S4\0041");
    Bench.exits("int main(void) { return sizeof \"abc\" \"\" \"de\" + sizeof \"\"; }", 7);
    Bench.exits("int main(void) { return sizeof \"a\\0b\"; }", 4);
    wrong("\"\\q\"[0]");
    wrong("\"\\x\"[0]");
    Bench.faults("char *s = \"ok\"\n \"\\9\";", 2, 2);
    Bench.exits("#define S \"b\"\nint main(void) { return (\"a\" S \"c\")[1] == 'b'; }", 1);
  }

  private static void order() {
    Bench.faults("int x = 'ab';\n 09", 2, 1);
    Bench.faults("int ( ;\n 09", 2, 2);
    Bench.faults("int main(void) { undeclared; }\n #\n int ## x;", 2, 3);
    Bench.faults("int a; 09\n#error", 1, 2);
    Bench.faults("#define H #\nint x;\nH", 2, 3);
    new Bench().header("h", "int x;\nint y = 09;\n").source("#include \"h\"\n").refused("token in a header", 2, 2, 1);
    Bench.exits("#define main main\nint main(void) { int Auto = 3, If_ = 4, _x9 = 0; return Auto + If_; }", 7);
  }
}
