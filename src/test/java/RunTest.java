/** Memory, running, steps, outcomes and the lines that are told of them. */
public final class RunTest {
  public static void main(String[] args) {
    memory();
    order();
    values();
    greatValues();
    traps();
    calls();
    initialising();
    statements();
    steps();
    lines();
    exiting();
    arguments();
    Bench.finish();
  }

  private static void memory() {
    Bench b = Bench.exits("char a = 1; int b = 2; static short c = 3; extern int e, u; double d = 1.0; char s[] = \"xy\"; char *p = \"ab\" \"c\";"
        + "int f(void) { static char t = 7; static int v; return sizeof \"zz\"; } int e = 9; int main(void) { puts(\"q\"); return 0; }", 0);
    Bench.due("a", b.x.memory(1024), 1);
    Bench.due("b", b.x.memory(1028), 2);
    Bench.due("c", b.x.memory(1032) & 65535, 3);
    Bench.due("e", b.x.memory(1036), 9);
    Bench.due("d low", b.x.memory(1040), 0);
    Bench.due("d high", b.x.memory(1044), 0x3ff00000);
    Bench.due("s", b.x.memory(1048) & 0xffffff, 'y' << 8 | 'x');
    Bench.due("p", b.x.memory(1052), 1064);
    Bench.due("t", b.x.memory(1056) & 255, 7);
    Bench.due("abc", b.x.memory(1064), 'c' << 16 | 'b' << 8 | 'a');
    Bench.due("zz and q", b.x.memory(1068), 'z' << 8 | 'z' | 'q' << 24);
    Bench.due("heapEnd", b.x.heapEnd(), 1088);
    Bench.due("objects", b.x.about(1), 9);
    Bench.due("strings", b.x.about(2), 3);
    Bench.due("functions", b.x.about(0), 2);
    Bench.exits("int f(void), g(void); int main(void) { return (unsigned)main - (unsigned)f; } int g(void) { return 0; } int f(void) { return 0; }", 32);
    Bench.exits("int main(void) { int g(void); return (unsigned)g - (unsigned)main; } int f(void) { return 0; } int g(void) { return 0; }", 16);
    Bench.exits("int main(void) { return (unsigned)main == 0x40000000; }", 1);
    b = Bench.exits("int f(int a, char b, double c) { char d; int e = a; return (unsigned)&b - (unsigned)&a + ((unsigned)&c - (unsigned)&a) * 2 + ((unsigned)&d - (unsigned)&a) * 4"
        + " + (unsigned)&e - (unsigned)&a; } int main(void) { return f(1, 2, 3); }", 4 + 16 + 64 + 20);
    Bench.due("lowest", b.x.lowest(), 262144 - 24);
    Bench.due("greatest frame", b.x.about(4), 24);
    Bench.exits("int main(void) { int a; { int b; } { int c; return (unsigned)&c - (unsigned)&a; } }", 8);
    Bench.exits("struct s { int a, b; }; struct s g(void) { struct s r = { 1, 2 }; return r; } int main(void) { return sizeof g() + g().b; }", 10);
    b = Bench.exits("struct s { char x[3]; }; struct s g(void) { struct s r = { 1 }; return r; } struct t { int y; } h(void) { struct t r = { 7 }; return r; }"
        + "int main(void) { char c = 5; g(); h(); sizeof g(); return 0; }", 0);
    Bench.due("lowest with places", b.x.lowest(), 262144 - 16 - 8);
    Bench.due("answer of g", b.x.memory(262144 - 16), 5 | 1 << 8);
    Bench.due("answer of h", b.x.memory(262144 - 12), 7);
    Bench.exits("int x = 0x01020304; int main(void) { char *p = (char *)&x; return p[0] * 1 + p[3] * 16; }", 4 + 16);
    Bench.exits("char b[9]; int main(void) { *(int *)(b + 1) = 0x11223344; return b[1] == 0x44 && b[4] == 0x11 && *(short *)(b + 3) == 0x1122; }", 1);
    Bench.exits("int main(void) { int a[2], i; int f(void); f(); return a[0] + a[1] + i; } int f(void) { int z[9]; return z[3]++; }", 0);
    Bench.exits("int f(int n) { int x; x += n; return x; } int main(void) { f(3); return f(4); }", 4);
    Bench big = new Bench();
    big.source("char a[238976];" + Bench.main("")).runs("memory is just full", 9, 0, 0);
    Bench.due("heapEnd", big.x.heapEnd(), 240000);
    Bench.faults("char a[238977];\nint main(void) { return 0;\n}", 5, 3);
    Bench.faults("char a[238970];\nint main(void) { puts(\"123456\"); return 0;\n}", 5, 3);
    Bench.exits("char a[238970]; int main(void) { \"12345\"; return 0; }", 0);
    Bench.faults("char a[200000], b[200000];\nint main(void) { return 0; }", 5, 2);
    Bench.faults("int main(void) {\n char a[262144]; int b;\n return 0;\n}\n\nint x;", 5, 4);
    Bench.traps("int main(void) { char a[262144]; return 0; }", 2, 0);
    Bench.traps("int f(void) { char a[262144]; return 0; }\nint main(void) {\n return f(); }", 2, 3);
  }

  private static void order() {
    String log = "int l(int n) { printf(\"%d\", n); return n; } int *p(int n, int *q) { l(n); return q; } int z, a[9]; int (*g(int n, int (*f)(int)))(int) { l(n); return f; }"
        + " int two(int a, int b) { return a + b; }\nint main(void) {\n ";
    Bench.writes(log + "l(1) + l(2) * l(3); }", "123");
    Bench.writes(log + "two(l(1), two(l(2), l(3))); }", "123");
    Bench.writes(log + "*p(1, &z) = l(2); *p(3, &z) += l(4); }", "1234");
    Bench.writes(log + "p(1, a)[l(2)] = l(3); l(4)[p(5, a)]; }", "12345");
    Bench.writes(log + "g(1, l)(l(2)); }", "122");
    Bench.writes(log + "l(0) && l(1); l(2) && l(3); l(4) || l(5); l(0) || l(6); l(7) ? l(8) : l(9); l(0) ? l(1) : l(2); l(1), l(2); }", "0234067802" + "12");
    Bench.exits("int x = 1; int f(void) { x = 10; return 5; } int main(void) { x += f(); return x; }", 6);
    Bench.exits("int x = 1; int f(void) { x = 10; return 5; } int main(void) { return x + f() + x; }", 16);
    Bench.exits("int i = 1, a[4]; int main(void) { a[i++] = i++; return a[1] * 10 + i; }", 23);
    Bench.exits("int i = 5; int main(void) { return i++ * 10 + i; }", 56);
    Bench.exits("int i = 5; int main(void) { return ++i * 10 + i++ + i; }", 73);
    Bench.exits("struct s { int a; } x = { 1 }, y = { 2 }; int f(struct s v, int w) { return v.a * 10 + w; } int main(void) { return f(x, x.a = 5); }", 55);
    Bench.exits("struct s { int a; } x = { 1 }; int main(void) { struct s y; y = x; return (x.a = 4, y.a) + (y = x).a * 10; }", 41);
    Bench.exits("struct s { int a; } x = { 3 }; struct s f(void) { return x; } int main(void) { return f().a * 10 + (1 ? f() : x).a + (0, x).a; }", 36);
    Bench.exits("struct s { int a[2]; } x = { { 3, 4 } }; struct s f(int n) { x.a[0] = n; return x; } int main(void) { return f(1).a[0] + f(2).a[1] * 10; }", 41);
    Bench.exits("struct s { int a; }; struct s f(int n) { struct s r = { n }; return r; } int g(struct s a, struct s b) { return a.a * 10 + b.a; } int main(void) { return g(f(1), f(2)); }", 12);
    Bench.exits("union u { int a[3]; struct { int x; int b[2]; } s; } u = { { 1, 2, 3 } }; struct c { int v[2]; }; int main(void) { *(struct c *)(u.a + 1) = *(struct c *)u.a; return u.a[1] * 10 + u.a[2]; }", 12);
    Bench.exits("struct s { char x; int b : 5; } s; int main(void) { return (s.b = 17) + 20 + (s.b++ == -15) * 100 + (++s.b == -13) * 50; }", 155);
    Bench.exits("char c; int main(void) { return (c = 300) == 44 && (c += 100) == -112 && c-- == -112 && (c = 127, ++c) == -128; }", 1);
  }

  private static void values() {
    String[] hold = {
      "(char)200 == -56", "(unsigned char)-1 == 255", "(short)40000 == -25536", "(unsigned)-1 == 4294967295u", "(int)4294967297ll == 1",
      "(long long)(unsigned)-1 == 4294967295ll", "(unsigned long long)-1 == 18446744073709551615u", "-1 > 1u", "-1 < 1ll", "-1ll > 1ull",
      "(unsigned char)255 + 1 == 256", "(char)127 + (char)1 == 128", "2147483647 + 1 < 0", "-2147483647 - 1 - 1 > 0", "65536 * 65536 == 0", "4294967295u + 1 == 0",
      "(-2147483647 - 1) / -1 < 0", "(-2147483647 - 1) % -1 == 0", "-7 / 2 == -3", "-7 % 2 == -1", "7 % -2 == 1", "7u / 2 == 3", "-7 / 2u == 2147483644u",
      "1 << 31 < 0", "-1 >> 31 == -1", "-1u >> 31 == 1", "1ll << 40 == 1099511627776ll", "(unsigned char)1 << 8 == 256", "1 << 31u < 0", "5 >> 1ll == 2",
      "~0 == -1", "~0u == 4294967295u", "~(unsigned char)0 == -1", "-(unsigned)1 == 4294967295u", "- (char)-128 == 128", "!0 == 1", "!3.5 == 0", "!0.0 == 1", "!-0.0 == 1",
      "1 / 2 * 2.0 == 0", "1 / 2.0 == 0.5", "(int)-2.9 == -2", "(int)2.9f == 2", "(unsigned char)255.9 == 255", "(char)-128.9 == -128", "(long long)9e18 == 9000000000000000000",
      "(unsigned long long)1.8e19 == 18000000000000000000u", "(unsigned)4294967295.5 == 4294967295u", "(unsigned)-0.9 == 0", "0.1f != 0.1", "0.1f + 0.2f == 0.3f", "(float)0.1 == 0.1f",
      "16777217 + 0.0f == 16777216", "(float)16777217 == 16777216", "16777217 + 0.0 == 16777217", "1.0 / 3 * 3 == 1.0", "1e308 * 10 > 1e308", "-1e308 * 10 < -1e308",
      "1.0 / (1e308 * 10) == 0", "0.0 == -0.0", "1 / 0.0 > 1e308", "1 / -0.0 < 0", "3 == 3.0", "-1 < 0.5", "4294967295u > -1.0", "(float)9223372036854775807ll == 9223372036854775808.0f",
      "(double)18446744073709551615u == 18446744073709551616.0", "(float)0x8000008000000001ull == 9223373136366403584.0f", "(float)0x4000004000000001ll == 4611686568183201792.0f",
      "(1 ? -1 : 0u) > 0", "(0 ? 1.5 : 1) == 1", "(1 ? 1 : 1.5) / 2 == 0.5", "sizeof(1 ? 1 : 1ll) == 8", "(char)'\\377' == -1", "'a' + 1 == 'b'", "(1, 2) == 2", "(5 & 3 | 8 ^ 1) == 9",
      "1 < 2 == 1", "(3 > 2 > 1) == 0", "1 - 1 - 1 == -1", "100 / 10 / 5 == 2", "2 + 3 * 4 == 14", "1 << 2 + 1 == 8", "(1 || 0 && 0) == 1", "(0 == 1 || 2 == 2) == 1",
      "(void *)0 == 0", "(int)(char *)-1 == -1", "(long long)(char *)-1 == 4294967295ll", "(char *)4294967297ll == (char *)1", "(char)(char *)300 == 44", "(int *)4 + 2 == (int *)12",
      "2 + (int *)4 == (int *)12", "(int *)12 - 2 == (int *)4", "(int *)12 - (int *)4 == 2", "(int *)4 - (int *)12 == -2", "(int *)7 - (int *)0 == 1", "(int *)0 - 1 == (int *)-4",
      "(int *)-4 > (int *)4", "(char *)0x80000000 > (char *)0x7fffffff", "(int *)4 + 0x40000001 == (int *)8", "(char *)1 + 4294967296ll == (char *)1", "&((int *)0)[3] == (int *)12",
      "&((struct { int a, b; } *)8)->b == (int *)12", "sizeof(int) - 5 > 0", "-1 / 2 == 0", "-5 >> 1 == -3", "(unsigned short)65535 * (unsigned short)65535 < 0",
      "(1 ? (char)1 : (char)2) + 0 == 1", "0x7fffffff + 0x7fffffff == -2", "(short)-32768 - 1 == -32769", "!(int *)0 == 1", "!\"\" == 0", "(0.5 && 0.25) == 1", "(0.0 || -0.0) == 0"
    };
    for (String condition : hold) {
      Bench.exits("int main(void) { return " + condition + "; }", 1);
      Bench.exits("int main(void) { if (" + condition + ") return 3; else return 4; }", 3);
    }
    Bench.exits("int main(void) { unsigned char c = 250; int n = 0; while (c++ > 200) n++; return n + c; }", 7);
    Bench.exits("int main(void) { float f = 16777216.0f; f++; double d = 0.5; d++; --d; return (f == 16777216.0f) + (d == 0.5) * 2; }", 3);
    Bench.exits("int main(void) { int a[4] = { 1, 2, 3, 4 }, *p = a; p++; ++p; p -= 1; return *p++ * 10 + *--p + (p - a) * 100; }", 122);
    Bench.exits("struct s { int a[3]; } x[3]; int main(void) { struct s *p = x; p++; return (char *)p - (char *)x + (p + 1 - x) * 100; }", 212);
    Bench.exits("int main(void) { int x = 7; x %= 4; x <<= 3; x |= 5; x ^= 1; x &= ~8; x >>= 1; x -= -2; x *= 3; x /= 2; return x; }", 18);
    Bench.exits("int main(void) { char c = 100; c *= 1.2; return c == 120; }", 1);
    Bench.exits("int main(void) { int x = 10; x *= 0.55; return x; }", 5);
    Bench.exits("int main(void) { unsigned char c = 200; c += 100; c >>= 1; return c; }", 22);
    Bench.exits("struct { unsigned a : 3; int b : 3; unsigned c : 32; } x; int main(void) { x.a = 15; x.b = 5; x.c = -1; x.a += 2; return x.a + (x.b == -3) * 10 + (x.c > 0) * 100 + (x.a - 5 < 0) * 50; }",
        1 + 10 + 100 + 50);
    Bench.exits("struct { unsigned a : 3; } x; int main(void) { x.a = 7; x.a++; return x.a + (x.a-- == 0) * 10 + x.a * 20; }", 150);
  }

  private static final long[] GREAT = {0, 1, 2, 3, 7, 10, 4294967295L, 4294967296L, 6148914691236517205L, 9223372036854775806L,
      9223372036854775807L, -9223372036854775808L, -9223372036854775807L, -6148914691236517206L, -4294967296L, -10, -3, -2, -1};

  /** / and % of numbers of 64 bits without sign, above and below 9223372036854775808 on either side, also in constants. */
  private static void greatValues() {
    String lines = "unsigned long long a, b; int main(void) { while (scanf(\"%llu %llu\", &a, &b) == 2)"
        + " printf(\"%llu %llu %d%d%d%d%d\\n\", a / b, a % b, a < b, a <= b, a > b, a >= b, a == b); }";
    StringBuilder pairs = new StringBuilder();
    StringBuilder want = new StringBuilder();
    for (long a : GREAT) {
      for (long b : GREAT) {
        if (b == 0) {
          continue;
        }
        String left = Long.toUnsignedString(a);
        String right = Long.toUnsignedString(b);
        int order = Long.compareUnsigned(a, b);
        pairs.append(left).append(' ').append(right).append('\n');
        want.append(Long.toUnsignedString(Long.divideUnsigned(a, b))).append(' ');
        want.append(Long.toUnsignedString(Long.remainderUnsigned(a, b))).append(' ');
        want.append(order < 0 ? 1 : 0).append(order <= 0 ? 1 : 0).append(order > 0 ? 1 : 0).append(order >= 0 ? 1 : 0);
        want.append(order == 0 ? 1 : 0).append('\n');
      }
    }
    Bench b = new Bench();
    b.input(pairs.toString()).source(lines).runs("great values", 100000, 0, 0);
    Bench.due("great values", b.wrote(2), want.toString());
    Bench.writes("int main(void) { unsigned long long a = 18446744073709551615u, b = 9223372036854775808u; int i = -1; a /= b;"
        + " printf(\"%llu \", a); a = 18446744073709551614u; a %= 18446744073709551615u; printf(\"%llu \", a); a /= i; printf(\"%llu \", a);"
        + " b %= 10; printf(\"%llu %llu %lld\", b, 5 / 9223372036854775809u, -9223372036854775807 / 2); }",
        "1 18446744073709551614 0 8 0 -4611686018427387903");
    Bench.exits("char a[18446744073709551615u / 9223372036854775808u + 18446744073709551615u % 10 + 3 % 9223372036854775808u];"
        + " int main(void) { return sizeof a; }", 1 + 5 + 3);
    Bench.exits("enum { A = 18446744073709551615u / 10 % 100, B = 9223372036854775808u / 18446744073709551615u }; int main(void) { return A + B; }", 61);
    for (String sign : new String[] {"/", "%"}) {
      Bench.traps("unsigned long long a = 18446744073709551615u, b;\nint main(void) {\n a " + sign + " b; return 0; }", 3, 3);
      Bench.traps("unsigned long long a = 9223372036854775808u, b;\nint main(void) {\n a " + sign + "= b; return 0; }", 3, 3);
      Bench.faults("int a;\nchar b[18446744073709551615u " + sign + " 0ull];\nint main(void) { return 0; }", 4, 2);
    }
  }

  private static void traps() {
    String[][] traps = {
      {"*(int *)0;", "1"}, {"*(char *)1023;", "1"}, {"*(char *)262144;", "1"}, {"*(int *)262141;", "1"}, {"*(char *)-1 = 0;", "1"}, {"*(int *)1020 = 1;", "1"},
      {"*(double *)262138;", "1"}, {"struct { int a, b; } *p = (void *)262140, x; x = *p;", "1"}, {"struct { int a, b; } *p = (void *)1020, x; *p = x;", "1"},
      {"(*(int *)0)++;", "1"}, {"*(int *)0 += 1;", "1"}, {"struct { int a, b : 3; } *p = 0; p->b = 1;", "1"}, {"struct { int a, b : 3; } *p = (void *)1; return p->b;", "1"},
      {"1 / z;", "3"}, {"1 % z;", "3"}, {"1u / z;", "3"}, {"1ll % z;", "3"}, {"x /= z;", "3"}, {"1ull / z;", "3"}, {"x %= z;", "3"},
      {"1 << (z - 1);", "4"}, {"1 << (z + 32);", "4"}, {"1 >> (z + 32);", "4"}, {"1ll << (z + 64);", "4"}, {"x <<= z - 1;", "4"}, {"1 << 0x100000000ll + z;", "4"},
      {"1 >> -1ll + z;", "4"}, {"1 << (unsigned)(z - 1);", "4"},
      {"(int)(d + 2147483648.0);", "5"}, {"(int)(d - 2147483649.0);", "5"}, {"(char)(d + 128);", "5"}, {"(unsigned char)(d - 1);", "5"}, {"(unsigned)(d - 1);", "5"},
      {"(unsigned)(d + 4294967296.0);", "5"}, {"(long long)(d + 9223372036854775808.0);", "5"}, {"(unsigned long long)(d + 18446744073709551616.0);", "5"},
      {"x = d + 1e10;", "5"}, {"(short)(d + 32768);", "5"}, {"(int)inf;", "5"}, {"x = 1e300 * 1e300;", "5"}, {"char c = d + 200;", "5"}, {"x += 1e10;", "5"}, {"f(d + 1e10);", "5"},
      {"d / d;", "6"}, {"inf - inf;", "6"}, {"inf * d;", "6"}, {"inf / inf;", "6"}, {"-inf + inf;", "6"}, {"(float)d / (float)d;", "6"}, {"d /= d;", "6"}, {"n.q = 0x7ff8000000000000; n.d;", "6"},
      {"n.q = 0xfff0000000000001; return n.d == 0;", "6"}, {"n.i = 0x7f800001; n.f;", "6"}, {"n.i = 0x7fc00000; n.f++;", "6"},
      {"((int (*)(void))0)();", "7"}, {"((int (*)(void))0x40000008)();", "7"}, {"((int (*)(void))f)();", "7"}, {"((void (*)(int))f)(1);", "7"}, {"((int (*)(int))0x40001000)(1);", "7"},
      {"int (*p)(int) = (void *)0x3ffffff0; p(1);", "7"}, {"((int (*)(int, ...))f)(1);", "7"}, {"((int (*)(unsigned))f)(1);", "7"}, {"int (*p)(void) = (void *)0x40000010; p();", "7"},
      {"noanswer();", "8"}
    };
    for (String[] row : traps) {
      Bench.traps("int z, x; double d; double inf = 1e300 * 1e300; union { double d; unsigned long long q; float f; unsigned i; } n; int f(int a) { return a; } int body(void);\n"
          + "int noanswer(void) { }\nint main(void) {\n " + row[0] + "\n return 0; }", Integer.parseInt(row[1]), row[1].equals("8") ? 2 : 4);
    }
    Bench.exits("double z = 0.0; int main(void) { return 1 / z > 0 && -1 / z < 0 && 1e300 * 1e300 - 1 > 0 && (char)127.99 == 127 && (unsigned)4294967295.0 == -1; }", 1);
    Bench.exits("union { double d; unsigned long long q; } a = { .q = 0x7ff8000000000000 }, b; int main(void) { b = a; return b.q == a.q; }", 1);
    Bench.exits("int main(void) { *(char *)262143 = 7; return *(char *)262143 + *(char *)1024; }", 7);
    Bench.traps("int f(void) { if (0) return 1;\n}\nint main(void) { f();\n return 0; }", 8, 2);
    Bench.exits("int f(void) { if (0) return 1; }\nint main(void) { if (0) f(); }", 0);
    Bench.exits("void f(void) { } int main(void) { f(); return 3; }", 3);
    Bench.traps("int f(void);\nint (*p)(void);\nint main(void) {\n p = (int (*)(void))0x40000000;\n return p(); }", 7, 5);
  }

  private static void calls() {
    Bench.exits("int f(char a, double b, float c) { return a + b * 2 + c * 4; } int main(void) { return f(257, 3, 2.5); }", 1 + 6 + 10);
    Bench.exits("int f(char *p) { return p[1]; } int main(void) { return f(\"abc\") == 'b'; }", 1);
    Bench.exits("char f(int x) { return x; } unsigned char g(int x) { return x; } int main(void) { return (f(200) == -56) + (g(-1) == 255) * 2; }", 3);
    Bench.exits("double f(int x) { return x; } float g(double x) { return x; } int main(void) { return f(3) / 2 * 10 + (g(0.1) == 0.1f); }", 16);
    Bench.exits("int a(int n, ...) { va_list p; int s = 0; va_start(p, n); for (int i = 0; i < n; i++) s += va_arg(p, int); va_end(p); return s; } int main(void) { return a(3, 1, (char)2, (short)3); }", 6);
    Bench.exits("int a(int n, ...) { va_list p; va_start(p, n); double d = va_arg(p, double); long long q = va_arg(p, long long); char *s = va_arg(p, char *); unsigned u = va_arg(p, unsigned);"
        + " return d * 2 + q / 1000000000000ll + s[0] + (u == -1u) * 100; } int main(void) { return a(0, 1.5f, 7000000000000ll, \"A\", -1); }", 3 + 7 + 65 + 100);
    Bench b = Bench.exits("int *q; int a(int n, ...) { va_list p, r; va_start(p, n); q = (int *)p; r = p; va_arg(p, int); return p - r; } int main(void) { return a(0, 1, 2, 3) * 10 + (unsigned)q - 262144 + 24; }", 80);
    Bench.due("lowest", b.x.lowest(), 262144 - 24 - 16);
    Bench.exits("int a(int n, ...) { va_list p; va_start(p, n); int *i = (int *)p; return i[1] == 0 && i[3] == 0 && i[2] == -5 && i[0] == 3; } int main(void) { return a(0, 3, -5); }", 1);
    Bench.exits("int a(int n, ...) { va_list p; va_start(p, n); return va_arg(p, int); } int main(void) { int x = 0; return a(1) == x; }", 1);
    Bench.exits("int f(int n) { return n == 0 ? 0 : 1 + f(n - 1); } int main(void) { return f(998) == 998; }", 1);
    Bench.traps("int f(int n) {\n return n == 0 ? 0 : 1 + f(n - 1); }\nint main(void) { return f(999) == 999; }", 2, 2);
    b = Bench.traps("int f(int n) { char a[40000];\n return f(n); }\nint main(void) { return f(1); }", 2, 2);
    Bench.due("lowest", b.x.lowest(), 262144 - 6 * 40008);
    b = Bench.traps("char h[230000]; int f(int n, ...) { return n; }\nint main(void) { char a[31000];\n return f(1, 1ll, 1, 1, 1, 1, 1, 1, 1, 1, 1, 1, 1, 1, 1, 1, 1); }", 2, 3);
    Bench.due("steps", b.x.steps(), 2);
    b = Bench.traps("char h[230000]; int main(void) { char a[31200]; return 1; }", 2, 0);
    Bench.due("steps", b.x.steps(), 0);
    Bench.exits("typedef int (*fn)(int); int inc(int x) { return x + 1; } int dec(int x) { return x - 1; } fn pick(int n) { return n ? inc : dec; } int main(void) { fn t[2] = { inc, dec }; return pick(1)(5) * 10 + t[1](5) + (*pick(0))(1); }", 64);
    Bench.exits("int f(int (*g)(int), int x) { return (*g)(x); } int d(int x) { return 2 * x; } int main(void) { return f(d, f(&d, 3)); }", 12);
    Bench.exits("struct s { int n; int (*f)(struct s *); }; int get(struct s *s) { return s->n; } int main(void) { struct s x = { 9, get }; return x.f(&x); }", 9);
    Bench.exits("int x; int *f(void) { x++; return &x; } int main(void) { *f() += 10; return x; }", 11);
    Bench.exits("int f(int a[3]) { return sizeof a + a[2]; } int main(void) { int b[3] = { 1, 2, 3 }; return f(b); }", 7);
    Bench.exits("static int depth; int f(void) { static int n = 5; return n++; } int main(void) { f(); f(); return f(); }", 7);
    Bench.traps("int g(int a) { return a; }\nint z; int main(void) {\n int (*p)(int) = 0;\n return p(1 / z); }", 7, 4);
  }

  private static void initialising() {
    Bench.exits("int f(int n) { return n * 2; } int a = 3, b = 4; int c; int d[2] = { 1, 2 }; int main(void) { return a + b + d[1]; }", 9);
    Bench.exits("int f(void); int a = f(); int b = 5; int c = f(); int f(void) { return b++; } int main(void) { return a * 100 + b * 10 + c; }", 65);
    Bench.exits("int a[3]; int f(void) { a[1] = 7; return 1; } int b = f(); int a[3] = { 1 }; int main(void) { return a[0] * 10 + a[1]; }", 10);
    Bench.exits("int a; int f(void) { return a; } int g(void) { static int x = f(); return x; } int a = 5; int h(void) { static int x = f(); return x; } int main(void) { return g() * 10 + h(); }", 5);
    Bench.exits("struct s { int a, b; }; struct s f(int n) { struct s r = { n, n + 1 }; return r; } struct s x = f(3); int y = f(5).b; int main(void) { return x.b * 10 + y; }", 46);
    Bench b = Bench.exits("struct s { int a, b; }; struct s f(int n) { struct s r = { n, n + 1 }; return r; } struct s x = f(3); int y = f(5).b; int main(void) { return 0; }", 0);
    Bench.due("lowest: the initial frame and f's", b.x.lowest(), 262144 - 16 - 16);
    Bench.due("greatest frame", b.x.about(4), 16);
    Bench.exits("int main(void) { int i, s = 0; for (i = 0; i < 3; i++) { int x = i * 2; s += x; x = 100; } return s; }", 6);
    Bench.exits("int main(void) { int i, s = 0; for (i = 0; i < 3; i++) { int x; s += x; x = 10; } return s; }", 20);
    Bench.exits("int main(void) { int i = 0; again: ; int a[3] = { i, 1 }; a[2] += 5; if (i++ < 2) goto again; return a[0] * 10 + a[2]; }", 25);
    Bench.exits("int main(void) { goto in; { int x = 5; in: return x; } }", 0);
    Bench.exits("int main(void) { switch (2) { int x = 9; case 2: return x; } return 1; }", 0);
    Bench.exits("int main(void) { struct { char c; int a[3]; struct { short x, y; } p[2]; } s = { 1, { 2, 3 }, { { 4 }, { .y = 5 } } }; return s.c + s.a[1] * 2 + s.p[0].x * 4 + s.p[1].y * 8 + s.a[2] + s.p[1].x; }",
        1 + 6 + 16 + 40);
    Bench.exits("int main(void) { int m[2][3] = { 1, 2, 3, 4 }; int n[][2] = { { 1 }, 2, 3, { 4 } }; return m[1][0] * 10 + m[1][1] + sizeof n / sizeof n[0] * 50 + n[1][1] + n[2][0]; }", 40 + 150 + 3 + 4);
    Bench.exits("int main(void) { int a[] = { [3] = 1, 2, [1] = 5, 6 }; return sizeof a / 4 * 10 + a[1] + a[2] + a[3] + a[4]; }", 50 + 14);
    Bench.exits("struct s { int a; struct { int x, y; } b; int c; }; struct s v = { .b.y = 3, 4 }; int main(void) { return v.a + v.b.x + v.b.y * 10 + v.c; }", 34);
    Bench.exits("struct s { int a[3]; int b; }; struct s v[2] = { [0].a[1] = 3, 4, 5, [1] = { { 7 }, 8 } }; int main(void) { return v[0].a[1] + v[0].a[2] * 2 + v[0].b * 4 + v[1].a[0] + v[1].b; }", 3 + 8 + 20 + 15);
    Bench.exits("union { char c[4]; int i; } u = { { 1, 2 } }; union { int a; struct { short x, y; } s; } w = { .s.y = 1 }, t[2] = { 5, 6 }; int main(void) { return u.i == 0x201 && w.a == 65536 && t[1].a == 6; }", 1);
    Bench.exits("union { char c[4]; int i; } u = { 1, 2 }; int main(void) { return u.i == 0x201; }", 1);
    Bench.exits("char a[] = \"abc\", b[2] = \"ab\", c[5] = \"a\", d[2][3] = { \"ab\", { 'c' } }; int main(void) { return sizeof a + b[1] - 'b' + c[4] + d[1][0] - 'c' + d[0][2]; }", 4);
    Bench.exits("struct { int a : 3, : 4, b : 5; int c; } x = { 1, 2, 3 }; int main(void) { return x.a + x.b * 10 + x.c * 100 - 300; }", 21);
    Bench.exits("int n; int f(void) { return ++n; } int main(void) { int a[2] = { [0] = f(), [0] = f(), [1] = f() }; return a[0] * 10 + a[1]; }", 23);
    Bench.exits("struct s { int x, y; }; int main(void) { struct s a = { 1, 2 }, b[2] = { a, { 3 } }, c = a; return b[0].y + b[1].x * 10 + b[1].y + c.x; }", 33);
    Bench.exits("int x = 5; int main(void) { int x = x + 1; return x; }", 1);
    Bench.exits("int a[3] = { 1, 2, 3 }; int main(void) { int b[3] = { a[2], b[0] + 1, b[2] }; return b[0] * 10 + b[1] + b[2]; }", 34);
    Bench.exits("double d = 3; float f = 2.5; char c = 258; unsigned u = -1; long long q = 1 << 31; char *s = \"hi\" + 1; int main(void) { return d + f * 2 + c + (u == -1u) + (q < 0) + (*s == 'i'); }", 3 + 5 + 2 + 3);
    Bench.exits("int main(void) { static int a[2] = { 4, 5 }; static char s[] = \"xyz\"; static struct { int n; char *p; } t = { 3, s + 1 }; return a[1] * 10 + t.n + (*t.p == 'y') + sizeof s; }", 58);
  }

  private static void statements() {
    Bench.exits("int main(void) { int i = 0, s = 0; while (i < 10) { if (i++ % 2) continue; if (i > 8) break; s += i; } return s; }", 1 + 3 + 5 + 7);
    Bench.exits("int main(void) { int i = 0; do i++; while (i < 5); do { i += 10; continue; } while (i < 0); return i; }", 15);
    Bench.exits("int main(void) { int s = 0; for (int i = 0, j = 9; i < j; i++, j--) { if (i == 2) continue; s += j - i; } return s; }", 9 + 7 + 3 + 1);
    Bench.exits("int f(int x) { switch (x) { case 1: return 1; case 2: x = 20; case 3: x++; break; default: x = 50; case 9: return x; } return x; } int main(void) { return f(1) + f(2) + f(3) + f(4) + f(9) - f(9); }", 1 + 21 + 4 + 50);
    Bench.exits("int f(int x) { int s = 0; switch (x) { case 0: do { s++; case 1: s += 10; } while (s < 25); } return s; } int main(void) { return f(0) + f(1) + f(2); }", 33 + 32);
    Bench.exits("int main(void) { switch (3000000000u) { case 3000000000u: return 1; } return 2; }", 1);
    Bench.exits("int main(void) { switch ((char)200) { case 200: return 1; case -56: return 2; } return 3; }", 2);
    Bench.exits("int main(void) { switch (-1ll) { case -1: return 1; } return 2; }", 1);
    Bench.exits("int main(void) { switch (1) { switch (2) { case 1: return 1; } case 1: return 5; } return 2; }", 5);
    Bench.exits("int main(void) { int n = 0; a: n++; if (n < 3) goto a; goto c; b: return n; c: n += 10; goto b; }", 13);
    Bench.exits("int main(void) { for (int i = 0; ; i++) for (int j = 0; j < 3; j++) if (i * j == 4) goto out; out: return 3; }", 3);
    Bench.exits("int main(void) { int x = 0; for (; x < 3; ) x++; for (;; x++) if (x > 6) break; return x; }", 7);
    Bench.exits("int main(void) { double d = 0.5; if (d) return d * 8; return 1; }", 4);
    Bench.exits("int main(void) { int *p = 0; if (p) return 1; while (!p) { p = (int *)4; } return p ? 3 : 2; }", 3);
    Bench.exits("int main(void) { return 3.9; }", 3);
    Bench.exits("void f(int *p) { if (*p) { *p = 7; return; } *p = 8; } int main(void) { int x = 1; f(&x); return x; }", 7);
  }

  private static void stepsOf(String source, int want) {
    Bench.due(source, Bench.traps(source, 0, 0).x.steps(), want);
  }

  private static void steps() {
    stepsOf("int main(void) { }", 1);
    stepsOf("int main(void) { return 0; }", 2);
    stepsOf("int main(void) { ; { } a: ; { ; } int x = 3; 1; return 0; }", 3);
    stepsOf("int main(void) { if (1) ; else ; if (0) 1; else 2; }", 4);
    stepsOf("int main(void) { while (0) ; }", 3);
    stepsOf("int main(void) { int i = 0; while (i < 3) i++; }", 2 + 4 + 3);
    stepsOf("int main(void) { do ; while (0); }", 3);
    stepsOf("int main(void) { int i = 0; do i++; while (i < 3); }", 2 + 3 + 3);
    stepsOf("int main(void) { for (int i = 0; i < 3; i++) ; }", 2 + 4);
    stepsOf("int main(void) { for (;;) break; }", 4);
    stepsOf("int main(void) { for (int i = 0; i < 3; i++) { if (i) continue; } }", 2 + 4 + 3 + 2);
    stepsOf("int f(void) { return 1; } int main(void) { f() + f(); }", 2 + 4);
    stepsOf("int f(void) { return 1; } int x = f(); int main(void) { }", 3);
    stepsOf("int f(void) { return 1; } int main(void) { sizeof f(); static int x = f(); int y = f(); }", 1 + 1 + 4);
    stepsOf("int main(void) { switch (1) { case 1: case 2: ; default: break; } }", 3);
    stepsOf("int main(void) { goto a; a: ; }", 2);
    stepsOf("int main(void) { puts(\"\"); malloc(3); }", 3);
    stepsOf("int c(const void *a, const void *b) { return *(char *)a - *(char *)b; } char s[] = \"ba\"; int main(void) { qsort(s, 2, 1, c); }", 2 + 2);
    stepsOf("void f(void) { ; } int main(void) { atexit(f); atexit(f); }", 3 + 2);
    for (int fuel = 0; fuel <= 9; fuel++) {
      Bench b = new Bench();
      b.source("int f(void)\n{ return 1; }\nint main(void) {\n int x = f();\n while (x)\n  x--;\n return x; }").x.compile();
      int[] lines = {0, 4, 2, 5, 5, 6, 5, 7, 0};
      Bench.due("fuel " + fuel, b.x.run(fuel), fuel < 8 ? 9 : 0);
      Bench.due("line with fuel " + fuel, b.x.trapLine(), lines[Math.min(fuel, 8)]);
      Bench.due("steps with fuel " + fuel, b.x.steps(), Math.min(fuel, 8));
    }
  }

  private static void lines() {
    Bench.traps("int z;\nint\nx =\n1 / z;\nint main(void) { return 0; }", 3, 2);
    Bench.traps("int z;\nint main(void) {\n int\n a[2] = {\n 1,\n 1 / z };\n}", 3, 3);
    Bench.traps("int z;\nint main(void) {\n if (1)\n  while (1)\n   1 /\n z;\n}", 3, 5);
    Bench.traps("int z;\nint main(void) {\n while (\n 1 / z)\n   ;\n}", 3, 3);
    Bench.traps("int z;\nint main(void) {\n do\n z++;\n while (1 / (z - 1));\n}", 3, 3);
    Bench.traps("int z;\nint main(void) {\n for (;;\n 1 / z)\n   {\n z;\n }\n}", 3, 3);
    Bench.traps("int z;\nint main(void) {\n for (\n int x = 1 / z;;)\n   ;\n}", 3, 4);
    Bench.traps("int z;\nint main(void) {\n switch (\n 1 / z) { }\n}", 3, 3);
    Bench.traps("int z;\nint main(void) {\n a:\n b:\n 1 / z; }", 3, 5);
    Bench.traps("int z;\nint main(void) {\n return\n 1 / z; }", 3, 3);
    Bench.traps("int z;\nint main(void) {\n if (z) ;\n else\n if (\n 1 / z) ; }", 3, 5);
    Bench.traps("int z;\nint f(void) {\n z++;\n return 1; }\nint main(void) {\n f() +\n 1 / (z - 1); }", 3, 6);
    Bench.traps("int z;\nint f(void) {\n static int\n x = 1 / z;\n return 1; }\nint main(void) {\n return 0; }", 3, 3);
    Bench.traps("int z;\nint main(void) {\n int a = 1, b = 2,\n c = 1 / z; }", 3, 3);
    Bench h = new Bench();
    h.header("h", "\n\n\nint f(int z) { return\n 1 / z; }").source("#include \"h\"\nint main(void) { return f(0); }").runs("in a header", 99, 3, 4);
    Bench.traps("#define D(x) 1 /\\\n x\nint main(void) {\n return\n D(0); }", 3, 4);
  }

  private static void exiting() {
    Bench.exits("int main(void) { exit(300); }", 44);
    Bench.exits("int f(int n) { if (n == 0) exit(5); return f(n - 1) + 1; } int main(void) { return f(10); }", 5);
    Bench.writes("void a(void) { putchar('a'); } void b(void) { putchar('b'); } int main(void) { atexit(a); atexit(b); atexit(a); putchar('m'); return 3; }", "maba");
    Bench.writes("void b(void) { putchar('b'); } void a(void) { putchar('a'); atexit(b); } int main(void) { atexit(b); atexit(a); }", "abb");
    Bench b = Bench.writes("void a(void) { putchar('a'); } void b(void) { putchar('b'); exit(9); } int main(void) { atexit(a); atexit(b); atexit(a); exit(3); }", "ab");
    Bench.due("exit code", b.x.exitCode(), 9);
    b = Bench.writes("void a(void) { putchar('a'); } int f(void) { atexit(a); exit(4); return 1; } int x = f(); int main(void) { putchar('m'); }", "a");
    Bench.due("exit code", b.x.exitCode(), 4);
    Bench.traps("int main(void) {\n abort(); }", 10, 2);
    Bench.traps("void a(void) {\n abort(); }\nint main(void) { atexit(a); }", 10, 2);
    Bench.traps("int main(void) { atexit(0); }", 7, 0);
    Bench.traps("int f(void) { return 0; } int main(void) { atexit((void *)f); }", 7, 0);
    Bench.exits("int n; void a(void) { } int main(void) { for (int i = 0; i < 40; i++) n += atexit(a); return n; }", 8);
    b = Bench.writes("void a(void) { char x[100]; printf(\"%u\", (unsigned)x); } int main(void) { char y[200]; atexit(a); exit(0); }", "262040");
    Bench.traps("int main(void) { for (;;)\n  puts(\"0123456789abcdef0123456789abcdef0123456789abcdef0123456789abcde\"); }", 11, 2);
    b = new Bench();
    b.source("int main(void) { for (;;)\n  putc('x', stderr); }").x.compile();
    b.header("none", "");
    b.source("#define F fputs(\"0123456789abcdef\", f)\nint main(void) { void *f = (void *)3; for (;;)\n F; }").runs("stderr is full", 99999, 11, 3);
    Bench.due("written", b.x.written(3), 32768);
    Bench.due("the last", b.x.out(3, 32767), 'f');
    Bench.exits("int main(void); void f(void) { static int n; if (n++ < 3) main(); } int main(void) { f(); return 2; }", 2);
  }

  private static void arguments() {
    Bench b = new Bench();
    b.argument("ab").argument("").argument("x\0y").source("char big[9]; int main(int c, char **v) { for (int i = 0; i < c; i++) printf(\"%s;\", v[i]); printf(\"%u %u %d\", (unsigned)v[0], (unsigned)v, v[c] == 0);"
        + " return malloc(1) == (void *)1096; }").runs("arguments", 99, 0, 0);
    Bench.due("written", b.wrote(2), "c;ab;;x;1056 1068 1");
    Bench.due("heap begins behind", b.x.exitCode(), 1);
    b = new Bench();
    b.argument("ab").source("int main(void) { return malloc(1) == (void *)1032; }").runs("main without parameters", 99, 0, 0);
    Bench.due("heap begins at its beginning", b.x.exitCode(), 1);
    b = new Bench();
    b.argument("0123456789").source("char a[238950]; int main(int c, char **v) { return 0; }").runs("no room for arguments", 99, 2, 0);
    Bench.due("no steps", b.x.steps(), 0);
    Bench.due("lowest", b.x.lowest(), 262144);
    b = new Bench();
    b.argument("0123456789").source("char a[238944]; int main(int c, char **v) { return c; }").runs("just room for arguments", 99, 0, 0);
    Bench.due("heapEnd", b.x.heapEnd(), 240000);
  }
}
