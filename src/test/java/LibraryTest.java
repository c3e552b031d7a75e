/** The library's functions, with their traps. */
public final class LibraryTest {
  public static void main(String[] args) {
    streams();
    printing();
    greatNumbers();
    floating();
    scanning();
    texts();
    bytes();
    letters();
    numbers();
    random();
    heap();
    sorting();
    Bench.finish();
  }

  private static final String HEAD = "#include <stdio.h>\n#include <stdlib.h>\n#include <string.h>\n";

  private static Bench inMain(String input, String statements) {
    Bench b = new Bench();
    return b.input(input).source(HEAD + "int main(void) {\n" + statements + "\n}").runs(statements, 100000, 0, 0);
  }

  private static void wrote(String statements, String want) {
    Bench.due(statements, inMain("", statements).wrote(2), want);
  }

  private static void read(String input, String statements, String want) {
    Bench.due(statements, inMain(input, statements).wrote(2), want);
  }

  /** The expression is 1. */
  private static void holds(String expression) {
    Bench.due(expression, inMain("", "return (" + expression + ") + 40;").x.exitCode(), 41);
  }

  private static Bench trap(int outcome, String statements) {
    Bench b = new Bench();
    return b.input("input 12").source(HEAD + "int main(void) { char *q = (char *)262140; double d; union { double d; long long q; } nan = { .q = -1 };\n" + statements
        + "\n}").runs(statements, 100000, outcome, 5);
  }

  private static void streams() {
    wrote("putchar(65); putc(66, stdout); fputc(323, stdout); puts(\"x\"); puts(\"\"); fputs(\"y\", stdout); fputs(\"\", stdout);", "ABCx\n\ny");
    holds("putchar(300) == 44 && putc(-1, stdout) == 255 && fputc('a', stderr) == 'a' && puts(\"a\") == 0 && fputs(\"a\", stderr) == 0");
    read("ab\200", "printf(\"%d %d %d %d %d\", getchar(), getc(stdin), fgetc(stdin), getchar(), getc(stdin));", "97 98 128 -1 -1");
    read("abc", "printf(\"%d %d %d\", getc(stdout), fgetc(stderr), getchar());", "-1 -1 97");
    read("ab", "printf(\"%d %d %d %d %d\", ungetc('x', stdin), ungetc('y', stdin), getchar(), getchar(), ungetc(300, stdin)); printf(\" %d %d %d\", getchar(), getchar(), getchar());",
        "120 -1 120 97 300 44 98 -1");
    read("ab", "printf(\"%d %d %d %d\", ungetc(-1, stdin), ungetc('x', stdout), ungetc('x', stderr), getchar());", "-1 -1 -1 97");
    read("", "printf(\"%d %d %d\", ungetc('x', stdin), getchar(), getchar());", "120 120 -1");
    read("one\ntwo\n\nlast", "char b[9]; while (fgets(b, 9, stdin)) printf(\"[%s]\", b); printf(\"%d\", fgets(b, 9, stdin) == 0);", "[one\n][two\n][\n][last]1");
    read("abcdef", "char b[9] = \"zzzzzzzz\"; printf(\"%d%d%d\", fgets(b, 1, stdin) == 0, fgets(b, 0, stdin) == 0, fgets(b, -5, stdin) == 0); printf(\"%s\", b); fgets(b, 4, stdin); puts(b); fgets(b, 2, stdin); puts(b);",
        "111zzzzzzzzabc\nd\n");
    read("bc\n", "char b[9]; ungetc('a', stdin); printf(\"%d\", fgets(b, 9, stdin) == b); printf(\"%s\", b);", "1abc\n");
    read("ab", "char b[9]; printf(\"%d\", fgets(b, 5, stdout) == 0); printf(\"%d\", fgets(b, 5, stderr) == 0); printf(\"%d\", getchar());", "1197");
    String[] bad = {"putc('a', stdin);", "fputc('a', (FILE *)0);", "fputs(\"a\", stdin);", "fputs(\"\", (FILE *)4);", "fputs((char *)0, stdin);", "fprintf(stdin, \"\");", "fprintf((FILE *)-1, \"a\");",
        "getc((FILE *)0);", "fgetc((FILE *)4);", "ungetc('a', (FILE *)5);", "ungetc(-1, (FILE *)0);", "fgets(q, 1, (FILE *)0);", "puts((char *)0);", "puts((char *)1023);", "fputs((char *)0, stdout);",
        "fgets((char *)1000, 5, stdin);", "fgets(q, 9, stdin);", "printf((char *)0);", "putc('a', (FILE *)17);"};
    for (String statement : bad) {
      trap(1, statement);
    }
    Bench b = trap(1, "q[0] = 'a'; q[1] = 'b'; q[2] = 'c'; q[3] = 'd'; puts(q);");
    Bench.due("written before", b.wrote(2), "abcd");
    b = trap(1, "fgets(q, 9, stdin);");
    Bench.due("stored before", b.x.memory(262140), 'u' << 24 | 'p' << 16 | 'n' << 8 | 'i');
  }

  private static void printing() {
    wrote("printf(\"%d %i %u %o %x %X %c %s %%|\", -5, 6, 7, 8, 255, 255, 'c', \"str\");", "-5 6 7 10 ff FF c str %|");
    wrote("printf(\"%5d|%-5d|%05d|%+d|% d|%+ d|%- 5d|%-05d|%+05d\", 1, 2, 3, 4, 5, 6, 7, 8, 9);", "    1|2    |00003|+4| 5|+6| 7   |8    |+0009");
    wrote("printf(\"%.3d|%5.3d|%-5.3d|%05.3d|%.0d|%.d|%.0d|%+.0d|%5.0d\", 1, 2, -3, 4, 0, 0, 5, 0, 0);", "001|  002|-003 |  004|||5|+|     ");
    wrote("printf(\"%#x|%#X|%#o|%#x|%#o|%#.0o|%#.3o|%#.0x|%#08x|%#-8x|%#8x\", 255, 255, 8, 0, 0, 0, 8, 0, 255, 255, 255);",
        "0xff|0XFF|010|0|0|0|010||0x0000ff|0xff    |    0xff");
    wrote("printf(\"%hhd %hhd %hd %hhu %hu %hhx %hx %ho\", 200, -1, 40000, 300, 70000, -1, -1, -1);", "-56 -1 -25536 44 4464 ff ffff 177777");
    wrote("printf(\"%ld %lu %lld %llu %llx %llo %lli\", -1, -1, -1ll, -1ll, -1ll, 8ll, 1ll << 40);", "-1 4294967295 -1 18446744073709551615 ffffffffffffffff 10 1099511627776");
    wrote("printf(\"%lld %llu\", (-9223372036854775807ll - 1), 0ll);", "-9223372036854775808 0");
    wrote("printf(\"%d %u\", -2147483647 - 1, 4294967295u);", "-2147483648 4294967295");
    wrote("printf(\"%u %x %o\", -1, -1, -1);", "4294967295 ffffffff 37777777777");
    wrote("printf(\"%+u|% u|%+x|% o|%#u|%#d|%+c|%+s\", 1, 2, 3, 4, 5, 6, 'c', \"s\");", "1|2|3|4|5|6|c|s");
    wrote("printf(\"%c%c%c|%3c|%-3c|%03c|%.0c\", 65, 321, 0, 'a', 'b', 'c', 'd');", "AA\0|  a|b  |  c|d");
    wrote("printf(\"%s|%5s|%-5s|%.2s|%5.1s|%.0s|%05s|%s\", \"abc\", \"abc\", \"abc\", \"abc\", \"abc\", \"abc\", \"abc\", \"\");", "abc|  abc|abc  |ab|    a||  abc|");
    wrote("char b[3] = \"xyz\"; printf(\"%.3s|%.*s\", b, 2, b);", "xyz|xy");
    wrote("printf(\"%*d|%-*d|%*d|%.*d|%.*d|%*.*d\", 4, 1, 4, 2, -4, 3, 3, 4, -3, 5, 5, 2, 6);", "   1|2   |3   |004|5|   06");
    wrote("printf(\"%0*d|%-*d|\", -4, 1, -4, 2);", "1   |2   |");
    wrote("printf(\"%p|%12p|%-12p|%012p|%#p|%.3p|%+p|%.*p|%5p\", 0, (void *)1, (void *)2, (void *)3, (void *)-1, (void *)255, (void *)4, 2, (void *)5, 6);",
        "0x00000000|  0x00000001|0x00000002  |0x0000000003|0xffffffff|0x000000ff|0x00000004|0x00000005|0x00000006");
    wrote("printf(\"%ls|%lc|%hs|%hhc|%llc|%hp|%hhs\", \"a\", 'b', \"c\", 'd', 'e', (void *)1, \"f\");", "a|b|c|d|e|0x00000001|f");
    wrote("printf(\"%--5d|%00005d|%++d|%  d|%##x\", 1, 2, 3, 4, 5);", "1    |00002|+3| 4|0x5");
    wrote("printf(\"%0000000000000000000000004d|%.00000000000000000003d\", 1, 2);", "0001|002");
    wrote("int n = printf(\"abc%d\", 12); printf(\"%d %d\", n, printf(\"\"));", "abc125 0");
    wrote("char b[20]; int n = sprintf(b, \"%d-%s\", 5, \"x\"); printf(\"%s %d %d\", b, n, b[3]);", "5-x 3 0");
    wrote("char b[9] = \"abcdef\"; sprintf(b + 1, \"%.1s%.1s\", b, b); printf(\"%s\", b);", "aaa");
    wrote("fprintf(stdout, \"%d\", 3); fprintf(stderr, \"%d\", 4);", "3");
    wrote("unsigned char c = 200; short s = -3; float f = 1.5f; printf(\"%d %d %.1f\", c, s, f);", "200 -3 1.5");
    wrote("printf(\"%d\", 1ll << 32 | 7); printf(\"%lld\", 7);", "77");
    String[] bad = {"printf(\"%\");", "printf(\"%q\", 1);", "printf(\"%n\", q);", "printf(\"%5%\");", "printf(\"%-%\");", "printf(\"%l%\");", "printf(\"%5\");", "printf(\"%.\");", "printf(\"%ll\");",
        "printf(\"%hhhd\", 1);", "printf(\"%lllx\", 1);", "printf(\"%g\", 1.0);", "printf(\"%a\", 1.0);", "printf(\"%Lf\", 1.0);", "printf(\"%zd\", 1);", "printf(\"%1$d\", 1);", "printf(\"% 5 d\", 1);",
        "printf(\"%.-5d\", 1);", "printf(\"%.16f\", 1.0);", "printf(\"%.16e\", 1.0);", "printf(\"%.*f\", 16, 1.0);", "printf(\"%hld\", 1);", "printf(\"%D\", 1);", "sprintf(q, \"%S\", q);"};
    for (String statement : bad) {
      trap(5, statement);
    }
    Bench b = trap(5, "printf(\"ab%dc%q\", 7);");
    Bench.due("written before", b.wrote(2), "ab7c");
    b = trap(5, "sprintf(q, \"ab%q\");");
    Bench.due("stored before", b.x.memory(262140) & 65535, 'b' << 8 | 'a');
    String[] memory = {"printf(\"%s\", 0);", "printf(\"%s\", (char *)1000);", "sprintf(0, \"a\");", "sprintf((char *)0, \"\");", "sprintf(q, \"abcd\");", "sprintf(q, \"%9d\", 1);", "sprintf(q, \"%999999999999d\", 1);",
        "printf(\"%.5s\", q + 2);", "printf(q + 4);"};
    for (String statement : memory) {
      trap(1, statement.replace("q + 2", "(q[2] = q[3] = 'x', q + 2)"));
    }
    trap(11, "printf(\"%40000d\", 1);");
    trap(11, "printf(\"%.40000d\", 1);");
    trap(11, "printf(\"%-99999999999999999999d\", 1);");
    b = trap(11, "printf(\"%32768d%d\", 1, 2);");
    Bench.due("all that fits", b.x.written(2), 32768);
    trap(6, "printf(\"%f\", *(float *)&nan.q);");
    trap(6, "printf(\"%f\", nan.q);");
    trap(6, "printf(\"%.16f\", nan.q);");
    Bench near = new Bench();
    near.source("int main(void) { printf(\"%d %d %d\", 1); return 0; }").runs("arguments that are not there", 99, 1, 1);
    Bench.due("written", near.wrote(2), "1 ");
    near = new Bench();
    near.source("int main(void) { int a[4] = { 5, 0, 6, 7 }; printf(\"%d %d %d\", 1); return 0; }").runs("arguments that lie above", 99, 0, 0);
    Bench.due("written", near.wrote(2), "1 5 6");
    Bench.due("lowest has the places", near.x.lowest(), 262144 - 16 - 8);
    near = new Bench();
    near.source("int main(void) { fprintf((FILE *)9, \"\", 1, 2); return 0; }").runs("places ahead of the stream", 99, 1, 1);
    Bench.due("lowest has them", near.x.lowest(), 262144 - 16);
    Bench.traps("char h[230000]; int main(void) { char a[31100];\n printf(\"\", 1, 2); return 0; }", 2, 2);
  }

  /** The digits of 64-bit numbers without sign, from 9223372036854775808 on also. */
  private static void greatNumbers() {
    wrote("printf(\"%llu %llo %llx %llX\", 18446744073709551615u, 18446744073709551615u, 18446744073709551615u, 18446744073709551615u);",
        "18446744073709551615 1777777777777777777777 ffffffffffffffff FFFFFFFFFFFFFFFF");
    wrote("printf(\"%llu %llo %llx %llX\", 9223372036854775808u, 9223372036854775808u, 9223372036854775808u, 9223372036854775808u);",
        "9223372036854775808 1000000000000000000000 8000000000000000 8000000000000000");
    wrote("printf(\"%#llo %#llx %#llX %25llu|%-25llu|%025llu\", -1ll, -1ll, -1ll, -1ll, -1ll, -1ll);",
        "01777777777777777777777 0xffffffffffffffff 0XFFFFFFFFFFFFFFFF      18446744073709551615|18446744073709551615     |0000018446744073709551615");
    wrote("printf(\"%.22llu %.24llo %#.18llx %+llu % llu\", -1ll, -1ll, -1ll, -1ll, -1ll);",
        "0018446744073709551615 001777777777777777777777 0x00ffffffffffffffff 18446744073709551615 18446744073709551615");
    wrote("printf(\"%lld %lli\", -9223372036854775807 - 1, 9223372036854775807);", "-9223372036854775808 9223372036854775807");
    long[] some = {-9223372036854775807L, -8446744073709551616L, -8446744073709551617L, -10, -9, -8, -7, 9223372036854775807L, 10, 9, 8};
    for (long n : some) {
      String told = Long.toUnsignedString(n);
      wrote("unsigned long long n = " + told + "u; printf(\"%llu %llo %llx %llX\", n, n, n, n);", told + " " + Long.toOctalString(n)
          + " " + Long.toHexString(n) + " " + Long.toHexString(n).toUpperCase());
    }
    String fills = "printf(\"%lld %llu %llx\", a, b, c);";
    read("18446744073709551615 18446744073709551615 0xffffffffffffffff", "long long a; unsigned long long b, c; scanf(\"%lld%llu%llx\", &a, &b, &c); " + fills,
        "-1 18446744073709551615 ffffffffffffffff");
  }

  private static void floating() {
    wrote("printf(\"%f %f %f %f\", 0.0, -0.0, 1.5, -2.25);", "0.000000 -0.000000 1.500000 -2.250000");
    wrote("printf(\"%.0f %.0f %.0f %.0f %.0f %.0f %.0f\", 0.5, 1.5, 2.5, 3.5, -0.5, 0.50000001, 0.49999999);", "0 2 2 4 -0 1 0");
    wrote("printf(\"%.1f %.1f %.2f %.2f %.3f\", 0.25, 0.75, 1.125, 2.375, 0.0625);", "0.2 0.8 1.12 2.38 0.062");
    wrote("printf(\"%.15f %.15f\", 0.1, 1e-15);", "0.100000000000000 0.000000000000001");
    wrote("printf(\"%.1f %.0f %f\", 9.96, 99.5, 999999.9999999);", "10.0 100 1000000.000000");
    wrote("printf(\"%f\", 1e22); printf(\" %.3f\", 123456789012345680.0);", "10000000000000000000000.000000 123456789012345680.000");
    wrote("double x = 1; for (int i = 0; i < 1023; i++) x = x * 2; printf(\"%.0f\", x);",
        new java.math.BigDecimal(Double.longBitsToDouble(2046L << 52)).toPlainString());
    wrote("double x = 1e300 * 1e300; printf(\"%f %f %5f|%-5f|%05f|%+f|% f|%e %E %F\", x, -x, x, x, x, x, x, x, x, x);", "inf -inf   inf|inf  |  inf|+inf| inf|inf inf inf");
    wrote("printf(\"%e %e %e %e\", 0.0, -0.0, 1.0, 12345.678);", "0.000000e+00 -0.000000e+00 1.000000e+00 1.234568e+04");
    wrote("printf(\"%.0e %.0e %.0e %#.0e %.1e %E\", 1.5, 2.5, 9.5, 3.0, 9.96, 1e-10);", "2e+00 2e+00 1e+01 3.e+00 1.0e+01 1.000000E-10");
    wrote("printf(\"%e %.2e %e\", 1e100, 1.5e-300 / 1, 1e-5);", "1.000000e+100 1.50e-300 1.000000e-05");
    wrote("printf(\"%10.2f|%-10.2f|%010.2f|%+.1f|% .1f|%#.0f|%+010.1f|%-+8.1f|\", 3.14159, 3.14159, -3.14159, 2.0, 2.0, 3.0, 4.0, 5.0);",
        "      3.14|3.14      |-000003.14|+2.0| 2.0|3.|+0000004.0|+5.0    |");
    wrote("printf(\"%12.3e|%-12.3e|%012.3e|%+.1e\", 1234.5, 1234.5, -1234.5, 0.05);", "   1.234e+03|1.234e+03   |-001.234e+03|+5.0e-02");
    wrote("printf(\"%lf %hf %le %.f\", 1.0, 2.0, 3.0, 4.5);", "1.000000 2.000000 3.000000e+00 4");
    wrote("printf(\"%f %f\", 1.0f / 3, (float)16777217);", "0.333333 16777216.000000");
    for (int i = 0; i < 300; i++) {
      long bits = 0x9E3779B97F4A7C15L * (i + 1) ^ (long) i << 40;
      double x = Double.longBitsToDouble(bits);
      if (Double.isNaN(x) || Double.isInfinite(x)) {
        continue;
      }
      int p = i % 16;
      String want = new java.math.BigDecimal(x).setScale(p, java.math.RoundingMode.HALF_EVEN).toPlainString();
      want = x < 0 && !want.startsWith("-") ? "-" + want : want;
      wrote("union { long long q; double d; } u = { " + bits + "ll }; printf(\"%." + p + "f\", u.d);", want);
    }
  }

  private static void scanning() {
    read("12 -34 ff", "int a, b, n; unsigned c; n = scanf(\"%d %d %x\", &a, &b, &c); printf(\"%d %d %d %u\", n, a, b, c);", "3 12 -34 255");
    read("  12\n\t+34x", "int a, b, n; n = scanf(\"%d%d\", &a, &b); printf(\"%d %d %d %c\", n, a, b, getchar());", "2 12 34 x");
    read("12345678", "int a, b; unsigned c; int n = scanf(\"%3d%2d%x\", &a, &b, &c); printf(\"%d %d %d %x\", n, a, b, c);", "3 123 45 678");
    read("", "int a; printf(\"%d\", scanf(\"%d\", &a));", "-1");
    read("  \n ", "int a; printf(\"%d\", scanf(\"%d\", &a));", "-1");
    read("x", "int a = 5; int n = scanf(\"%d\", &a); printf(\"%d %d %c\", n, a, getchar());", "0 5 x");
    read("7", "int a, b; int n = scanf(\"%d%d\", &a, &b); printf(\"%d\", n);", "1");
    read("7 x", "int a, b; int n = scanf(\"%d%d\", &a, &b); printf(\"%d %c\", n, getchar());", "1 x");
    read("7", "int a; int n = scanf(\"%*d%d\", &a); printf(\"%d\", n);", "-1");
    read("7 8", "int a; int n = scanf(\"%*d%d\", &a); printf(\"%d %d\", n, a);", "1 8");
    read("a1b", "int a; int n = scanf(\"a%db\", &a); printf(\"%d %d %d\", n, a, getchar());", "1 1 -1");
    read("a1c", "int a; int n = scanf(\"a%db\", &a); printf(\"%d %d %c\", n, a, getchar());", "1 1 c");
    read("b", "int a; int n = scanf(\"a%d\", &a); printf(\"%d %c\", n, getchar());", "0 b");
    read("", "int a; int n = scanf(\"a%d\", &a); printf(\"%d\", n);", "-1");
    read(" a", "int a; int n = scanf(\"a%d\", &a); printf(\"%d\", n);", "0");
    read("  a 5", "int a; int n = scanf(\" a %d\", &a); printf(\"%d %d\", n, a);", "1 5");
    read("", "printf(\"%d %d\", scanf(\"\"), scanf(\"  \"));", "0 0");
    read("-", "int a = 3; int n = scanf(\"%d\", &a); printf(\"%d %d %d\", n, a, getchar());", "0 3 -1");
    read("-x", "int a = 3; int n = scanf(\"%d\", &a); printf(\"%d %d %c\", n, a, getchar());", "0 3 x");
    read("--5", "int a = 3; int n = scanf(\"%d\", &a); printf(\"%d %c\", n, getchar());", "0 -");
    read("-5 5", "unsigned a, b; scanf(\"%u%x\", &a, &b); printf(\"%u %u\", a, b);", "4294967291 5");
    read("0x1F 0XfF 1f 0x", "unsigned a, b, c, d = 9; int n = scanf(\"%x%x%x%x\", &a, &b, &c, &d); printf(\"%d %u %u %u %u\", n, a, b, c, d);", "4 31 255 31 0");
    read("0xg", "unsigned a; int n = scanf(\"%x\", &a); printf(\"%d %u %c\", n, a, getchar());", "1 0 g");
    read("0x12", "unsigned a, b; int n = scanf(\"%1x%x\", &a, &b); printf(\"%d %u %c\", n, a, getchar());", "1 0 x");
    read("0x12", "unsigned a, b; int n = scanf(\"%2x%x\", &a, &b); printf(\"%d %u %u\", n, a, b);", "2 0 18");
    read("00x12", "unsigned a; int n = scanf(\"%x\", &a); printf(\"%d %u %c\", n, a, getchar());", "1 0 x");
    read("-0x1f", "int a; scanf(\"%x\", &a); printf(\"%d\", a);", "-31");
    read("010 0x5", "int a, b; int n = scanf(\"%d%d\", &a, &b); printf(\"%d %d %d %c\", n, a, b, getchar());", "2 10 0 x");
    read("4294967297 99999999999999999999", "int a; long long b; scanf(\"%d%lld\", &a, &b); printf(\"%d %lld\", a, b);", "1 7766279631452241919");
    read("300 70000 5 -1", "struct { char a, x; short b; } s = { 1, 7, 2 }; long c; long long d; scanf(\"%hhd%hd%ld%lld\", &s.a, &s.b, &c, &d); printf(\"%d %d %d %d %lld\", s.a, s.x, s.b, c, d);", "44 7 4464 5 -1");
    read("hello  world", "char a[9], b[9]; int n = scanf(\"%s%s\", a, b); printf(\"%d %s %s\", n, a, b);", "2 hello world");
    read("hello", "char a[9] = \"zzzzzzzz\"; int n = scanf(\"%3s\", a); printf(\"%d %s %c %c\", n, a, a[4], getchar());", "1 hel z l");
    read(" ab c", "char a[4] = \"zzz\"; int n = scanf(\"%c%2c%*c%c\", a, a + 1, a + 3); printf(\"%d %.4s\", n, a);", "3  abc");
    read("ab", "char a[6] = \"zzzzz\"; int n = scanf(\"%5c\", a); printf(\"%d %s\", n, a);", "0 abzzz");
    read("", "char a; printf(\"%d\", scanf(\"%c\", &a));", "-1");
    read("a", "char a, b; printf(\"%d\", scanf(\"%c%c\", &a, &b));", "1");
    read("12", "int a; ungetc('9', stdin); scanf(\"%d\", &a); printf(\"%d\", a);", "912");
    read("5", "int a; printf(\"%d\", scanf(\"%0d\", &a)); printf(\"%d\", a);", "15");
    read("5 x", "int a; printf(\"%d\", scanf(\"%d \", &a)); printf(\"%c\", getchar());", "1x");
    wrote("int a, b; printf(\"%d\", sscanf(\"3,4\", \"%d,%d\", &a, &b)); printf(\" %d %d\", a, b);", "2 3 4");
    wrote("int a; char s[4]; printf(\"%d\", sscanf(\"77 abcdef\", \"%d %3s\", &a, s)); printf(\" %d %s\", a, s);", "2 77 abc");
    wrote("int a; printf(\"%d%d%d\", sscanf(\"\", \"%d\", &a), sscanf(\" \", \" x\"), sscanf(\"y\", \"x\"));", "-1-10");
    String[] bad = {"scanf(\"%\");", "scanf(\"%i\", q);", "scanf(\"%%\");", "sscanf(\"%\", \"%%\");", "scanf(\"%o\", q);", "scanf(\"%f\", q);", "scanf(\"%5\");", "scanf(\"%*\");", "scanf(\"%[a]\", q);", "scanf(\"%n\", q);",
        "scanf(\"%s %q\", q - 100, q);", "scanf(\"%lll\", q);", "scanf(\"%-5d\", q);"};
    for (String statement : bad) {
      trap(5, statement);
    }
    String[] memory = {"scanf(\"%s\", 0);", "scanf(\"%c\", (char *)1);", "scanf(\"%s%d\", q - 100, 0);", "scanf(\"%s%d\", q - 100, q + 1);", "scanf(\"%s\", q);", "sscanf(0, \"\" \"a\");", "scanf((char *)0);",
        "scanf(\"%5c\", q);", "scanf(\"%*s%lld\", q);"};
    for (String statement : memory) {
      trap(1, statement);
    }
    Bench b = new Bench();
    b.input("x").source("int main(void) { scanf(\"%d\"); return 0; }").runs("a place that is not there", 9, 1, 1);
    b = new Bench();
    b.input(" ").source("int main(void) { scanf(\"%d\"); return 0; }").runs("no place is read at the end", 9, 0, 0);
    b = trap(1, "scanf(\"%5c\", q);");
    Bench.due("stored before", b.x.memory(262140), 'u' << 24 | 'p' << 16 | 'n' << 8 | 'i');
  }

  private static void texts() {
    holds("strlen(\"\") == 0 && strlen(\"abc\") == 3 && strlen(\"a\\0b\") == 1");
    wrote("char b[9] = \"zzzzzzzz\"; printf(\"%d%s\", strcpy(b, \"ab\") == b, b); printf(\"%c\", b[3]);", "1abz");
    wrote("char b[9] = \"zzzzzzzz\"; printf(\"%d\", strncpy(b, \"ab\", 4) == b); printf(\"%d%d%c\", b[2], b[3], b[4]); strncpy(b, \"wxyz\", 2); printf(\"%c%c%d\", b[0], b[1], b[2]); strncpy(0, 0, 0);", "100zwx0");
    wrote("char b[9] = \"ab\"; printf(\"%d%s\", strcat(b, \"cd\") == b, b); strcat(b, \"\"); printf(\"%d%s\", strncat(b, \"efgh\", 2) == b, b); strncat(b, 0, 0); strncat(b, \"z\", 9); puts(b);", "1abcd1abcdefabcdefz\n");
    holds("strcmp(\"a\", \"b\") == -1 && strcmp(\"b\", \"a\") == 1 && strcmp(\"a\", \"a\") == 0 && strcmp(\"a\", \"ab\") == -1 && strcmp(\"\\377\", \"a\") == 1 && strcmp(\"\", \"\") == 0");
    holds("strncmp(\"abc\", \"abd\", 2) == 0 && strncmp(\"abc\", \"abd\", 3) == -1 && strncmp(\"b\", \"a\", 9) == 1 && strncmp(0, 0, 0) == 0 && strncmp(\"a\", \"a\", 9) == 0");
    wrote("char *s = \"hello\"; printf(\"%d %d %d %d %d %d\", strchr(s, 'l') - s, strrchr(s, 'l') - s, strchr(s, 0) - s, strrchr(s, 0) - s, strchr(s, 'z') == 0, strrchr(s, 'z') == 0); printf(\"%d\", strchr(s, 'l' + 256) - s);", "2 3 5 5 1 12");
    wrote("char *s = \"aabaabb\"; printf(\"%d %d %d %d %d\", strstr(s, \"aabb\") - s, strstr(s, \"\") - s, strstr(s, \"c\") == 0, strstr(s, \"aabbb\") == 0, strstr(\"\", \"\") != 0);", "3 0 1 1 1");
    String[] bad = {"strlen(0);", "strlen((char *)1023);", "strcpy(0, \"a\");", "strcpy(q, \"abcd\");", "strcpy(q, (char *)5);", "strcmp(0, \"\");", "strcmp(\"\", 0);", "strchr(0, 'a');", "strstr(0, \"a\");", "strstr(\"a\", 0);",
        "strcat(0, \"\");", "strcat(q - 9, (char *)1);", "strncat(0, \"\", 0);", "strncpy(q, \"a\", 5);", "strncmp(0, 0, 1);", "strrchr((char *)262144, 0);", "memcpy(q, q - 9, 5);", "memcpy((char *)1020, q, 1);", "memset(q, 1, 5);",
        "memset(q, 1, -1);", "memmove(q, q - 5, 5);", "memmove(q - 1, q, 6);", "memcmp(q, q, 5);", "memchr(q, 1, 5);", "memchr(0, 1, 1);", "strstr(0, 0);",
        "strlen((char *)300000);", "strlen((char *)-1);", "strchr((char *)300000, 'a');", "strrchr((char *)-5, 'a');", "strstr((char *)300000, \"a\");",
        "strstr(\"a\", (char *)300000);", "strcat((char *)300000, \"\");", "strcpy((char *)300000, \"\");", "strcmp((char *)-1, \"\");", "puts((char *)300000);",
        "atoi((char *)300000);", "strtol((char *)-9, 0, 10);", "printf(\"%s\", (char *)300000);", "printf((char *)300000);", "sscanf((char *)300000, \"a\");",
        "memset((char *)-1, 0, 1);", "memcpy(q, (char *)300000, 1);", "sprintf((char *)-1, \"\");", "fgets((char *)300000, 5, stdin);", "scanf((char *)-1);"};
    for (String statement : bad) {
      trap(1, statement);
    }
    Bench b = trap(1, "strcpy(q, \"abcdef\");");
    Bench.due("stored before", b.x.memory(262140), 'd' << 24 | 'c' << 16 | 'b' << 8 | 'a');
    holds("strstr((char *)0, \"\") == 0");
  }

  private static void bytes() {
    wrote("char b[9] = \"abcdefgh\"; printf(\"%d\", memcpy(b + 1, b, 5) == b + 1); puts(b);", "1aaaaaagh\n");
    wrote("char b[9] = \"abcdefgh\"; printf(\"%d\", memmove(b + 1, b, 5) == b + 1); puts(b); memmove(b, b + 2, 4); puts(b); memmove(b, b, 3);", "1aabcdegh\nbcdedegh\n");
    wrote("char b[9] = \"abcdefgh\"; printf(\"%d\", memset(b + 1, 'x' + 256, 3) == b + 1); puts(b); memset(0, 1, 0); memcpy(0, 0, 0); memmove(0, 0, 0);", "1axxxefgh\n");
    holds("memcmp(\"a\\0b\", \"a\\0c\", 3) == -1 && memcmp(\"\\377\", \"\\1\", 1) == 1 && memcmp(\"a\", \"b\", 0) == 0 && memcmp(0, 0, 0) == 0");
    wrote("char *s = \"a\\0bc\"; printf(\"%d %d %d %d\", (char *)memchr(s, 'b', 4) - s, memchr(s, 'z', 4) == 0, memchr(s, 'b', 2) == 0, (char *)memchr(s, 0, 4) - s);", "2 1 1 1");
    holds("memchr((char *)0, 1, 0) == 0");
  }

  private static void letters() {
    StringBuilder want = new StringBuilder();
    for (int c = -2; c < 260; c++) {
      boolean ascii = c >= 0 && c < 128;
      boolean upper = c >= 'A' && c <= 'Z';
      boolean lower = c >= 'a' && c <= 'z';
      boolean digit = c >= '0' && c <= '9';
      boolean hex = digit || c >= 'a' && c <= 'f' || c >= 'A' && c <= 'F';
      boolean blank = c == ' ' || c >= 9 && c <= 13;
      boolean graph = c > 32 && c < 127;
      boolean[] all = {digit, upper || lower, upper || lower || digit, blank, upper, lower, hex, c >= 32 && c < 127, graph && !upper && !lower && !digit};
      for (boolean one : all) {
        want.append(one && ascii ? 1 : 0);
      }
      want.append(upper ? c + 32 : c).append(lower ? c - 32 : c);
    }
    wrote("for (int c = -2; c < 260; c++) printf(\"%d%d%d%d%d%d%d%d%d%d%d\", isdigit(c), isalpha(c), isalnum(c), isspace(c), isupper(c), islower(c), isxdigit(c), isprint(c), ispunct(c), tolower(c), toupper(c));",
        want.toString());
    holds("isdigit(0x100000030ll) == 1 && isalpha(256 + 'a') == 0 && toupper(256 + 'a') == 256 + 'a'");
  }

  private static void numbers() {
    holds("abs(-5) == 5 && abs(5) == 5 && abs(-2147483647 - 1) < 0 && labs(-3) == 3 && llabs(-5000000000ll) == 5000000000ll && llabs(3) == 3 && llabs(-9223372036854775807ll - 1) < 0");
    holds("atoi(\"42\") == 42 && atoi(\" \\t\\n\\v\\f\\r-17x\") == -17 && atoi(\"+3\") == 3 && atoi(\"\") == 0 && atoi(\"x\") == 0 && atoi(\"- 3\") == 0 && atoi(\"4294967297\") == 1 && atol(\"12\") == 12");
    holds("atoll(\"9223372036854775807\") == 9223372036854775807ll && atoll(\"-5\") == -5 && atoll(\"18446744073709551617\") == 1 && atoi(\"0x10\") == 0");
    String[][] rows = {
      {"12", "10", "12", "2"}, {" -0x1fg", "16", "-31", "6"}, {"0x1f", "0", "31", "4"}, {"017", "0", "15", "3"}, {"19", "0", "19", "2"}, {"0x", "0", "0", "1"}, {"0xg", "16", "0", "1"}, {"08", "0", "0", "1"},
      {"z", "36", "35", "1"}, {"Z9", "36", "1269", "2"}, {"102", "2", "2", "2"}, {"", "10", "0", "0"}, {"  -", "10", "0", "0"}, {"  x", "10", "0", "0"}, {"+", "0", "0", "0"}, {"0", "0", "0", "1"}, {"-0", "8", "0", "2"},
      {"12", "1", "0", "0"}, {"12", "37", "0", "0"}, {"12", "-1", "0", "0"}, {"4294967298", "10", "2", "10"}, {"0b1", "2", "0", "1"}, {"0x12", "10", "0", "1"}, {"0X1G", "0", "1", "3"}, {"fF", "16", "255", "2"}, {"8", "8", "0", "0"}
    };
    for (String[] row : rows) {
      wrote("char *e = 0; char *s = \"" + row[0] + "\"; int n = strtol(s, &e, " + row[1] + "); printf(\"%d %d %d\", n, e - s, strtol(s, 0, " + row[1] + ") == n);", row[2] + " " + row[3] + " 1");
    }
    trap(1, "strtol(\"12\", (char **)8, 10);");
    trap(1, "strtol(0, 0, 10);");
    trap(1, "atoi((char *)262144);");
    trap(1, "q[0] = q[1] = q[2] = q[3] = '1'; atoi(q);");
    holds("fabs(-2.5) == 2.5 && fabs(2.5) == 2.5 && 1 / fabs(-0.0) > 0 && floor(2.7) == 2 && floor(-2.1) == -3 && floor(3) == 3 && ceil(2.1) == 3 && ceil(-2.7) == -2 && ceil(-3.0) == -3");
    holds("1 / floor(-0.0) < 0 && 1 / ceil(-0.0) < 0 && 1 / ceil(-0.5) < 0 && 1 / floor(0.5) > 0 && floor(-0.5) == -1 && floor(1e300) == 1e300 && ceil(-1e300 * 1e300) < -1e308 && floor(4503599627370495.5) == 4503599627370495.0");
    holds("sqrt(4) == 2 && sqrt(0) == 0 && 1 / sqrt(-0.0) < 0 && sqrt(1e300 * 1e300) > 1e308 && sqrt(0.25) == 0.5 && sqrt(2) * sqrt(2) - 2 < 1e-15");
    trap(6, "sqrt(-1);");
    trap(6, "sqrt(-1e-300);");
    for (int i = 0; i < 200; i++) {
      long bits = (0x9E3779B97F4A7C15L * (i + 1) ^ (long) i << 40) & Long.MAX_VALUE;
      bits = i % 10 == 0 ? bits >>> 11 : bits;
      double x = Double.longBitsToDouble(bits);
      if (!Double.isNaN(x)) {
        wrote("union { long long q; double d; } u = { " + bits + "ll }; u.d = sqrt(u.d); printf(\"%llx\", u.q);", Long.toHexString(Double.doubleToRawLongBits(Math.sqrt(x))));
      }
    }
  }

  private static void random() {
    int x = 1;
    StringBuilder want = new StringBuilder();
    for (int i = 0; i < 20; i++) {
      x = x * 1103515245 + 12345;
      want.append(x >> 16 & 32767).append(' ');
    }
    wrote("for (int i = 0; i < 20; i++) printf(\"%d \", rand());", want.toString());
    wrote("rand(); srand(1); for (int i = 0; i < 20; i++) printf(\"%d \", rand());", want.toString());
    holds("(srand(-7), rand()) == ((-7 * 1103515245 + 12345) >> 16 & 32767)");
    Bench b = new Bench();
    b.source("int main(void) { return rand() & 255; }").runs("first", 9, 0, 0);
    int first = b.x.exitCode();
    b.x.run(9);
    Bench.due("each run begins anew", b.x.exitCode(), first);
  }

  private static void heap() {
    String head = "char *a, *b, *c, *d; int main(void) { ";
    Bench x = Bench.exits(head + "a = malloc(1); b = malloc(8); c = malloc(9); d = malloc(0); return 0; }", 0);
    // The heap begins at 1040.
    Bench.due("a", x.x.memory(1024), 1048);
    Bench.due("b", x.x.memory(1028), 1064);
    Bench.due("c", x.x.memory(1032), 1080);
    Bench.due("d", x.x.memory(1036), 1104);
    Bench.due("end", x.x.heapEnd(), 1112);
    Bench.due("size of a", x.x.memory(1040), 8);
    Bench.due("a is taken", x.x.memory(1044), 1);
    Bench.due("size of c", x.x.memory(1072), 16);
    x = Bench.exits(head + "a = malloc(24); b = malloc(8); free(a); c = malloc(8); d = malloc(0); return 0; }", 0);
    Bench.due("c is where a was", x.x.memory(1032), 1048);
    Bench.due("the block is not cut by 8", x.x.memory(1040), 8);
    Bench.due("d is the rest", x.x.memory(1036), 1064);
    x = Bench.exits(head + "a = malloc(16); b = malloc(8); free(a); c = malloc(8); d = malloc(8); return 0; }", 0);
    Bench.due("a block that is 8 larger stays whole", x.x.memory(1040), 16);
    Bench.due("d is behind", x.x.memory(1036), 1088);
    x = Bench.exits(head + "a = malloc(40); b = malloc(8); free(a); c = malloc(8); return 0; }", 0);
    Bench.due("cut", x.x.memory(1040), 8);
    Bench.due("the rest", x.x.memory(1056), 24);
    Bench.due("is free", x.x.memory(1060), 0);
    x = Bench.exits(head + "a = malloc(8); b = malloc(8); c = malloc(8); d = malloc(8); free(a); free(c); free(b); return 0; }", 0);
    Bench.due("joined on both sides", x.x.memory(1040), 40);
    Bench.due("free", x.x.memory(1044), 0);
    Bench.due("end", x.x.heapEnd(), 1104);
    x = Bench.exits(head + "a = malloc(8); b = malloc(8); c = malloc(8); free(b); free(c); return 0; }", 0);
    Bench.due("the end comes down", x.x.heapEnd(), 1056);
    Bench.due("the joined header stays written", x.x.memory(1056), 24);
    x = Bench.exits(head + "a = malloc(8); free(a); return 0; }", 0);
    Bench.due("the heap is empty", x.x.heapEnd(), 1040);
    x = Bench.exits(head + "a = malloc(8); a[0] = 5; b = realloc(a, 16); c = realloc(0, 3); d = realloc(b, 8); return b[0]; }", 5);
    Bench.due("b is behind", x.x.memory(1028), 1064);
    Bench.due("c is where a was", x.x.memory(1032), 1048);
    Bench.due("d stays", x.x.memory(1036), 1064);
    Bench.due("and is not cut", x.x.memory(1056), 16);
    Bench.exits(head + "a = malloc(100); return realloc(a, 0) == 0; }", 1);
    Bench.exits(head + "a = malloc(100); b = realloc(a, 250000); return free(a), b == 0; }", 1);
    Bench.exits(head + "a = realloc(0, 0); return a == (char *)1048; }", 1);
    Bench.exits(head + "a = malloc(9); for (int i = 0; i < 9; i++) a[i] = 7; free(a); b = calloc(3, 3); int s = 0; for (int i = 0; i < 16; i++) s += b[i]; return s; }", 0);
    Bench.exits(head + "return calloc(0, 5) == (char *)1048 && calloc(5, 0) == (char *)1064; }", 1);
    Bench.exits(head + "return calloc(65536, 65536) == 0 && calloc(2, 120001) == 0 && calloc(-1, -1) == 0 && malloc(240001) == 0 && malloc(-1) == 0; }", 1);
    x = Bench.exits(head + "a = malloc(240000); return a != 0; }", 1);
    Bench.due("a large block", x.x.heapEnd(), 1040 + 8 + 240000);
    Bench.exits(head + "a = malloc(240000); b = malloc(16993); return b == 0; }", 1);
    Bench.exits(head + "a = malloc(240000); b = malloc(16992); return b != 0; }", 1);
    x = Bench.exits(head + "a = malloc(200000); b = malloc(56984); c = malloc(1); return b != 0 && c == 0; }", 1);
    Bench.due("4096 are left", x.x.heapEnd(), 1040 + 8 + 200000 + 8 + 56984);
    Bench.exits(head + "free(0); a = malloc(8); free(a); return 1; }", 1);
    trap(1, "free(q);");
    trap(1, "char *a = malloc(8); free(a + 1);");
    trap(1, "char *a = malloc(8), *b = malloc(8); free(a); free(a);");
    trap(1, "realloc(q, 5);");
    trap(1, "realloc(q, 0);");
    trap(1, "char *a = malloc(8), *b = malloc(8); free(a); realloc(a, 3);");
    trap(1, "char *a = malloc(8); *(int *)(a - 8) = 0x7ffffff8; free(a + 16);");
    x = Bench.exits(head + "a = malloc(8); b = malloc(8); *(int *)(a - 4) = 7; c = malloc(8); return c == a; }", 1);
    trap(1, "char *a = malloc(8), *b = malloc(8); *(int *)(a - 8) = 0x7ffffff8; *(int *)(a - 4) = 0; malloc(262200);");
    x = Bench.exits(head + "a = malloc(8); *(int *)(a - 8) = 1000000; b = malloc(8); return b - a; }", 16);
  }

  private static void sorting() {
    String cmp = "int n; int c(const void *a, const void *b) { n++; return *(const int *)a - *(const int *)b; } int v[9] = { 5, 3, 9, 1, 5, 0, 7, 2, 8 };\n";
    Bench.writes(cmp + "int main(void) { qsort(v, 9, 4, c); for (int i = 0; i < 9; i++) printf(\"%d\", v[i]); printf(\" %d\", n); }", "012355789 " + compares());
    Bench.writes("struct s { char k, v[4]; } v[5] = { { 3, \"a\" }, { 1, \"b\" }, { 3, \"c\" }, { 2, \"d\" }, { 1, \"e\" } }; int c(const void *a, const void *b) { return ((struct s *)a)->k - ((struct s *)b)->k; }"
        + " int main(void) { qsort(v, 5, sizeof v[0], c); for (int i = 0; i < 5; i++) printf(\"%d%s\", v[i].k, v[i].v); }", "1b1e2d3a3c");
    Bench.writes("char s[] = \"hello\"; int c(const void *a, const void *b) { return *(char *)b - *(char *)a; } int main(void) { qsort(s, 5, 1, c); puts(s); }", "ollhe\n");
    Bench b = Bench.writes("int c(const void *a, const void *b) { printf(\"%d,%d \", (int)((char *)a - (char *)1024), 262144 - (int)b); return 1; } char s[6]; int main(void) { qsort(s, 3, 2, c); }",
        "0,2 2,2 0,2 ");
    Bench.due("lowest: the copy, a frame and two places", b.x.lowest(), 262144 - 8 - 8 - 16);
    Bench.exits(cmp + "int main(void) { qsort(v, 1, 4, c); qsort(v, 0, 4, c); qsort(v, 9, 0, c); qsort(0, 1, 4, 0); qsort(0, 5, 0, 0); return n; }", 0);
    Bench.traps(cmp + "int main(void) {\n qsort(v, 2, 4, 0); }", 7, 3);
    Bench.traps(cmp + "int main(void) {\n qsort(v, 2, 4, (void *)main); }", 7, 3);
    Bench.traps(cmp + "int main(void) {\n qsort(0, 2, 4, c); }", 1, 3);
    Bench.traps(cmp + "int main(void) {\n qsort((char *)262140, 2, 4, c); }", 1, 3);
    Bench.traps(cmp + "int main(void) {\n qsort(v, 2, 0x40000000, c); }", 2, 3);
    Bench.traps(cmp + "int main(void) {\n qsort(v, 2, 261100, c); }", 2, 3);
    Bench.traps(cmp + "int main(void) {\n qsort(v, 2, 261000, c); }", 1, 3);
    Bench.traps("int c(const void *a, const void *b) {\n return 1 / *(int *)a; }\nint v[2]; int main(void) {\n qsort(v, 2, 4, c); }", 3, 2);
    Bench.writes("int v[4] = { 4, 3, 2, 1 }, w[3] = { 3, 1, 2 }; int d(const void *a, const void *b) { return *(int *)a - *(int *)b; }"
        + " int c(const void *a, const void *b) { w[0] = 9; qsort(w, 3, 4, d); return *(int *)a - *(int *)b; } int main(void) { qsort(v, 4, 4, c); for (int i = 0; i < 4; i++) printf(\"%d\", v[i]); printf(\" %d%d\", w[0], w[2]); }",
        "1234 " + sortedTwice());
    b = new Bench();
    b.source(cmp + "int main(void) {\n qsort(v, 9, 4, c);\n return 0; }").x.compile();
    Bench.due("fuel ends before the first comparison", b.x.run(2), 9);
    Bench.due("line", b.x.trapLine(), 3);
    Bench.due("fuel ends in it", b.x.run(3), 9);
    Bench.due("line", b.x.trapLine(), 1);
    Bench.exits("int v[3] = { 3, 2, 1 }; int c(const void *a, const void *b) { exit(7); return 0; } int main(void) { qsort(v, 3, 4, c); return 1; }", 7);
  }

  private static int compares() {
    int[] v = {5, 3, 9, 1, 5, 0, 7, 2, 8};
    int n = 0;
    for (int i = 1; i < v.length; i++) {
      int taken = v[i];
      int j = i;
      while (j > 0) {
        n++;
        if (v[j - 1] <= taken) {
          break;
        }
        v[j] = v[j - 1];
        j--;
      }
      v[j] = taken;
    }
    return n;
  }

  private static String sortedTwice() {
    int[] w = {3, 1, 2};
    for (int k = 0; k < 6; k++) {
      w[0] = 9;
      java.util.Arrays.sort(w);
    }
    return "" + w[0] + w[2];
  }
}
