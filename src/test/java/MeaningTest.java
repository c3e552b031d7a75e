/** Types and their sizes, and what may not be meant. */
public final class MeaningTest {
  public static void main(String[] args) {
    words();
    layouts();
    tags();
    declaredOnce();
    completeness();
    constants();
    operands();
    lvalues();
    assigning();
    calls();
    initialisers();
    statements();
    wholeUnit();
    linesOfFaults();
    Bench.finish();
  }

  private static final String MAIN = "\nint main(void) { return 0; }";

  /** Fault 4 at the first line. */
  private static void wrong(String text) {
    Bench.faults(text + MAIN, 4, 1);
  }

  private static void right(String text) {
    Bench.exits(text + MAIN, 0);
  }

  /** Statements that are fault 4 at line 3, behind some declarations. */
  private static void inMain(String statements) {
    Bench.faults(DECLARATIONS + "int main(int argc, char **argv) {\n" + statements + "\n}", 4, 3);
  }

  private static void fits(String statements) {
    Bench b = new Bench();
    b.source(DECLARATIONS + "int main(int argc, char **argv) {\n" + statements + "\nreturn 0; }");
    Bench.due(statements + " at line " + b.x.faultLine(), b.x.compile(), 0);
  }

  private static final String DECLARATIONS = "int i, *p, a[3]; int f(int x) { return x; } void v(void) {} struct s { int m, n[2];"
      + " unsigned b : 3; struct s *next; } s, *sp; union u { int a; } u; struct s g(void) { return s; } double d; float fl; char c, *cp;"
      + " void *vp; const int ci; enum e { E } e; int (*fp)(int); struct inc *ip; extern struct inc inc; int va(int n, ...) { return n; }"
      + " long long ll; unsigned un; extern int ea[];\n";

  private static void words() {
    String[][] types = {
      {"char", "1"}, {"signed char", "1"}, {"char unsigned", "1"}, {"short", "2"}, {"int short", "2"}, {"unsigned short int", "2"},
      {"int", "4"}, {"signed", "4"}, {"unsigned", "4"}, {"int signed", "4"}, {"long", "4"}, {"unsigned long", "4"}, {"long int", "4"},
      {"long long", "8"}, {"long int long unsigned", "8"}, {"float", "4"}, {"double", "8"}, {"void *", "4"}, {"enum { X }", "4"},
      {"size_t", "4"}, {"va_list", "4"}, {"FILE *", "4"}, {"const volatile int", "4"}, {"int (*)(void)", "4"}
    };
    for (String[] row : types) {
      Bench.exits("int main(void) { return sizeof(" + row[0] + "); }", Integer.parseInt(row[1]));
    }
    Bench.exits("char c = -1; unsigned char u = -1; signed char s = 200; int main(void) { return (c < 0) + (u > 0) * 2 + (s < 0) * 4; }", 7);
    Bench.exits("unsigned long u = -1; long l = -1; size_t z = -1; int main(void) { return (u > 0) + (l < 0) * 2 + (z > 0) * 4; }", 7);
    for (String bad : new String[] {"static x", "const x", "extern x", "char int x", "short char x", "long short x", "long float x",
        "long double x", "signed unsigned x", "int int x", "char char x", "unsigned unsigned x", "long long long x", "float int x",
        "signed float x", "unsigned double x", "void int x", "unsigned void x", "const const int x", "static static int x",
        "static extern int x", "typedef static int x", "inline inline int x", "register register int x", "auto auto int x",
        "volatile int volatile x", "struct s { int a; } int x", "int struct s { int a; } x", "enum { A } int x",
        "struct s { int a; } struct t { int a; } x", "size_t int x", "size_t unsigned x", "short double x"}) {
      wrong(bad + ";");
    }
    right("auto int a; register int b; inline int c; static inline auto register const volatile restrict int d; int e, *restrict q;");
    right("int; const int; static int; struct s { int a; }; unsigned; extern const struct s;");
    wrong("static;");
    wrong("const;");
  }

  private static void layouts() {
    String[][] sizes = {
      {"char a; int b;", "8"}, {"char a; short b; char c;", "6"}, {"long long a; char b;", "12"}, {"char a; double b;", "12"},
      {"char a; char b;", "2"}, {"char a[3]; short b;", "6"}, {"struct { char a; } x; int b;", "8"}, {"struct { char a[5]; } x[2]; short y;", "12"},
      {"union { char a; short b[3]; } x; char y;", "8"}, {"int a : 3; int b : 29;", "4"}, {"int a : 3; int b : 30;", "8"},
      {"int a : 3; char b; int c : 3;", "12"}, {"char a; int b : 1;", "8"}, {"int a : 1; int : 0; int b : 1;", "8"},
      {"char a; int : 0; char b;", "2"}, {"int : 5; char b;", "8"}, {"char a; int : 5;", "8"}, {"int a : 32; int b : 1;", "8"},
      {"unsigned a : 1; int b : 1; unsigned c : 30;", "4"}, {"int a : 1; struct { char c; } x; char d;", "8"},
      {"char a; unsigned : 0;", "1"}, {"int a : 1; unsigned : 0;", "4"}
    };
    for (String[] row : sizes) {
      Bench.exits("struct s { " + row[0] + " } x; int main(void) { return sizeof x; }", Integer.parseInt(row[1]));
    }
    Bench.exits("union u { char a[5]; int b; } x; int main(void) { return sizeof x; }", 8);
    Bench.exits("union u { char a; int b : 3; } x; int main(void) { return sizeof x; }", 4);
    Bench.exits("union u { char a; int : 3; } x; int main(void) { return sizeof x; }", 4);
    Bench.exits("union u { char a; int : 0; } x; int main(void) { return sizeof x; }", 1);
    Bench.exits("union u { char a[3]; short b; } x; int main(void) { return sizeof x; }", 4);
    Bench b = Bench.exits("struct s { char a; unsigned b : 3, c : 30, d : 2; int : 0; int e : 4; char f; } x = { 1, 5, 0x12345678 & 0x3fffffff, 3, -2, 9 };"
        + "\nint main(void) { return sizeof x; }", 20);
    Bench.due("first", b.x.memory(1024), 1);
    Bench.due("b", b.x.memory(1028), 5);
    Bench.due("c and d", b.x.memory(1032), 0x12345678 | 3 << 30);
    Bench.due("e", b.x.memory(1036), 14);
    Bench.due("f", b.x.memory(1040), 9);
    wrong("struct s { };");
    wrong("struct s { int : 3; };");
    wrong("union u { int : 0; };");
    wrong("struct s { int a; char a; };");
    wrong("struct s { int a : 3, a; };");
    wrong("struct s { char a : 3; };");
    wrong("struct s { long long a : 3; };");
    wrong("struct s { int a : 33; };");
    wrong("struct s { int a : -1; };");
    wrong("struct s { int a : 0; };");
    wrong("struct s { int a : 3.0; };");
    wrong("struct s { int *a : 3; };");
    wrong("struct s { double a : 3; };");
    wrong("int x; struct s { int a : x; };");
    right("enum e { A }; struct s { enum e a : 3; long b : 4; unsigned long c : 32; };");
    wrong("struct s { void a; };");
    wrong("struct s { int a[]; };");
    wrong("struct s { int f(void); };");
    wrong("struct s { struct s a; };");
    wrong("struct s { struct t a; };");
    right("struct s { struct s *a; struct t *b; int (*f)(struct s); };");
    right("struct s { char a[262144]; };");
    wrong("struct s { char a[262144]; char b; };");
    wrong("struct s { char a[200000], b[200000], c[200000], d[200000]; };");
    right("union s { char a[262144], b[262144]; };");
    wrong("union s { char a[262141]; int b[65537]; };");
    wrong("typedef int a[65537];");
    wrong("typedef char a[512][513];");
    right("typedef char a[512][512];");
    wrong("typedef char a[262145];");
    wrong("typedef char a[0];");
    wrong("typedef char a[-1];");
    wrong("typedef char a[4294967297ll];");
    wrong("typedef char a[0x8000000000000001];");
  }

  private static void tags() {
    right("struct s { int a; }; struct s x; struct s f(struct s y);");
    right("struct s; struct s *p; struct s { int a; }; struct s x;");
    right("struct s x; struct s { int a; };");
    right("struct s *p; struct s { struct s *q; } y;");
    wrong("struct s { int a; }; struct s { int a; };");
    wrong("struct s { struct s { int a; } b; };");
    wrong("struct s { int a; }; union s x;");
    wrong("struct s { int a; }; enum s x;");
    wrong("struct s { int a; }; enum s { A };");
    wrong("enum s { A }; struct s x;");
    wrong("enum s { A }; enum s { B };");
    wrong("enum s { A }; struct s { int a; };");
    wrong("struct s; union s { int a; };");
    wrong("enum s x;");
    wrong("enum s;");
    wrong("struct s; union s;");
    right("enum s { A }; enum s x, f(enum s);");
    right("struct s; struct s; union u; union u;");
    fits("struct s { char c; } x; union s2 { int a; }; { struct s; struct s { char d[9]; } y; y.d[8] = x.c; } x.c = 1;");
    fits("union s; union s *q; q = 0;");
    inMain("union s *q;");
    inMain("enum s q;");
    fits("enum s { A }; enum s q = A;");
    inMain("{ struct t { int a; } x; } struct t y;");
    inMain("const struct s; s.m = 1; struct s; struct s z;");
    fits("const struct s; struct s z; z.m = 1;");
    Bench.exits("struct s { int a; }; int main(void) { struct s; struct s *p; struct s { char c; }; return sizeof *p; }", 1);
    Bench.exits("struct s { int a; }; int main(void) { const struct s; struct s *p; return sizeof *p; }", 4);
    Bench.exits("struct s { int a; }; int f(struct s { char c; } *p) { return sizeof *p; } int main(void) { return sizeof(struct s); }", 4);
    Bench.exits("int f(struct q *p); struct q { int a; }; int main(void) { return sizeof(struct q); }", 4);
    Bench.exits("typedef struct { int a; } A; typedef struct { int a; } B; A x; int main(void) { A y; y = x; return sizeof y; }", 4);
    inMain("struct { int a; } x; struct { int a; } y; x = y;");
    fits("struct { int a; } x, y; x = y;");
    Bench.exits("struct s { int a; } x; int main(void) { struct s { int b; } y; y.b = 3; return y.b + sizeof x; }", 7);
  }

  private static void declaredOnce() {
    right("int x; int x; extern int x; int x = 3; static int x;");
    right("int f(int); int f(int a); int f(int b) { return b; } extern int f(int);");
    right("int a[]; int a[3]; int a[]; extern int a[3];");
    right("int a[3]; extern int a[];");
    wrong("int x; char x;");
    wrong("int x = 1; int x = 2;");
    wrong("int f(void) { return 0; } int f(void) { return 0; }");
    wrong("int f(int); int f(void);");
    wrong("int f(int); char f(int);");
    wrong("int f(int); int f(int, ...);");
    wrong("int x; int x(void);");
    wrong("int a[3]; int a[4];");
    wrong("int a[]; char a[3];");
    wrong("typedef int T; typedef int T;");
    wrong("typedef int T; int T;");
    wrong("int T; typedef int T;");
    wrong("enum { A, A };");
    wrong("enum { A }; int A;");
    wrong("int A; enum { A };");
    wrong("int f(int a, int a);");
    right("int f(int a, int (*g)(int a));");
    wrong("int f(int a) { int a; }");
    right("int f(int a) { { int a; } return 0; }");
    right("const int x; int x; volatile int *p; int *p; int f(const int); int f(int a);");
    right("int f(int a[3]); int f(int *a); int g(int h(void)); int g(int (*h)(void)); int k(); int k(void);");
    right("typedef int T; T x; int x; unsigned long u; unsigned u; enum e { A } v; int v;");
    inMain("int x; int x;");
    inMain("int x; extern int x;");
    inMain("extern int i; extern int i;");
    inMain("int x; static int x;");
    inMain("int x; typedef int x;");
    inMain("int x; enum { x };");
    inMain("extern char i;");
    inMain("extern int f;");
    inMain("char f(int);");
    inMain("int f(int); int f(int);");
    inMain("int argc;");
    inMain("typedef int T; typedef int T;");
    inMain("for (int k = 0; ; ) { } int k; int k;");
    fits("int x; { int x; { extern int i; i = 1; } } for (int x = 0; x; ) { int x; } int y, z = y;");
    fits("extern int i, a[], f(int); int g2(int); { extern int new; } a[0] = f(i);");
    fits("x: ; int x; goto x; struct x { int x; } y; y.x = 0;");
    Bench.exits("int main(void) { extern int x; x = 3; return x; } int x = 5;", 3);
    Bench.exits("int main(void) { int f(void); return f(); } int f(void) { return 6; }", 6);
    Bench.faults("int main(void) { int f(void); f(); return 0; }\nint f(void) { return 0; }\nint g(void) { return x; }", 4, 3);
    Bench.faults("int main(void) { extern int x; return x; }\nint g(void) { return x; }\nint x;", 4, 2);
    Bench.faults("int main(void) { extern int x; return 0; }\nchar x;", 4, 2);
    Bench.faults("int g(void) { extern int x; return 0; }\nint main(void) { extern char x; return 0; }", 4, 2);
    Bench.exits("int main(void) { extern int x[]; return x[1]; } int x[2] = { 3, 4 };", 4);
    Bench.exits("static int x = 1; int main(void) { int x = 2; { extern int x; return x; } }", 1);
    Bench.exits("int main(void) { extern int x = 4; return x; }", 4);
  }

  private static void completeness() {
    wrong("void x;");
    wrong("extern void x;");
    wrong("void x[3];");
    wrong("typedef void V; V x;");
    wrong("struct s x[3];");
    wrong("int f[3](void);");
    wrong("int f(void)[3];");
    wrong("int f(void)(void);");
    wrong("int a[3][];");
    wrong("typedef int F(void); F a[3];");
    wrong("typedef int F(void); F f(void);");
    wrong("typedef int A[3]; A f(void);");
    wrong("void f(void x) { }");
    wrong("void f(struct s x) { }");
    wrong("void f(int) { }");
    wrong("void f(int a, char *) { }");
    wrong("struct s f(void) { }");
    wrong("typedef int F(void) { return 0; }");
    wrong("struct s *p; int x = sizeof *p;");
    right("void f(void x); void g(struct s x); struct s h(void); void i(void x, void); int j(int, char *);");
    right("typedef void V; V *p; V f(V *); int a[][3]; int a[2][3];");
    right("extern int a[]; extern struct s x;");
    Bench.faults("int a[];\nint main(void) { return 0; }\n", 4, 2);
    Bench.faults("struct s x;\nint main(void) { return 0; }\n", 4, 2);
    Bench.faults("FILE x;\nint main(void) { return 0; }\n", 4, 2);
    Bench.faults("extern int a[];\nint main(void) { return a[0]; }\n", 4, 2);
    Bench.faults("extern int a;\nint main(void) { return sizeof a; }\n", 4, 2);
    Bench.faults("int f(void);\nint main(void) {\n return sizeof f(); }\n", 4, 3);
    right("extern int a; int f(void);");
    right("int a[]; int *p = a, b = sizeof a[0]; int a[3];");
    wrong("int a[]; int b = sizeof a;");
    wrong("extern int a[]; int b = sizeof a;");
    inMain("void x;");
    inMain("int x[];");
    inMain("struct t x;");
    inMain("static int x[];");
    inMain("extern void x;");
    inMain("static struct t x;");
    inMain("int x[] = 3;");
    inMain("struct t x = { 1 };");
    inMain("inc;");
    inMain("*ip;");
    inMain("ip + 1;");
    inMain("ip++;");
    inMain("ip->x;");
    inMain("inc.x;");
    inMain("ip[0];");
    inMain("0[ip];");
    inMain("ip - ip;");
    inMain("vp + 1;");
    inMain("*vp;");
    inMain("vp[0];");
    inMain("vp - vp;");
    inMain("vp += 1;");
    inMain("fp + 1;");
    inMain("fp[0];");
    inMain("sizeof(void);");
    inMain("sizeof(struct t);");
    inMain("sizeof(int (void));");
    inMain("sizeof f;");
    inMain("sizeof inc;");
    inMain("sizeof *ip;");
    inMain("sizeof ea;");
    inMain("sizeof(int []);");
    inMain("sizeof v();");
    inMain("sizeof(FILE);");
    inMain("sizeof s.b;");
    inMain("sizeof g().b;");
    inMain("sizeof sp->b;");
    fits("sizeof(s.b = 1); sizeof(s.b + 0); sizeof(0, s.b); sizeof +s.b;");
    Bench.faults(DECLARATIONS + MAIN.replace("return 0", "&inc == 0"), 4, 3);
    fits("ip == 0; ip = 0; vp = ip; vp == vp; vp < vp; *fp; **fp; (*fp)(1);");
    Bench.exits("struct s { int a : 3; unsigned b : 32; } x; int main(void) { return sizeof(x.a = 1) + ((x.b, x.b) - 1 > 0) * 10; }", 14);
  }

  private static void constants() {
    Bench.exits("enum { A = 3, B, C = B * 2 - 1, D = 'a' == 97 ? 1 << 3 : 1 / 0, F = sizeof(int [A]), G = (char)300, H = -7 / 2, I = ~0u >> 31 };"
        + "int main(void) { return (A == 3) + (B == 4) * 2 + (C == 7) * 4 + (D == 8) * 8 + (F == 12) * 16 + (G == 44) * 32 + (H == -3) * 64 + (I == 1) * 128; }", 255);
    Bench.exits("enum { A = 2147483647, B, C = 4294967296ll + 5, D = 3000000000u }; int main(void) { return (B < 0) + (C == 5) * 2 + (D < 0) * 4; }", 7);
    right("int a[3 + (1 || 1 / 0)], b[0 ? 1 / 0 : 2], c[!(0 && 1 % 0)], d[1 ? 2 : 1 << 40], e[(int)5 & 6 | 1 ^ 8];");
    right("int a[sizeof(int) == 4 ? 1 : -1], b[(unsigned char)257], c[sizeof a + sizeof 1.5], d[-(-3)];");
    wrong("int a[1 / 0];");
    wrong("int a[5 % 0];");
    wrong("int a[1 << 32];");
    wrong("int a[1 >> -1];");
    wrong("int a[1 ? 1 / 0 : 2];");
    wrong("int a[1 && 1 / 0];");
    wrong("int a[(3, 4)];");
    wrong("int x; int a[x];");
    wrong("int x; int a[1 || x];");
    wrong("int x; int a[1 ? 2 : x];");
    wrong("int a[2.5];");
    wrong("int a[(int)2.5];");
    wrong("int a[(int)(float)2];");
    wrong("int a[\"a\"[0]];");
    wrong("int a[(int *)0 == 0];");
    wrong("int a[!(int *)0];");
    wrong("int f(void); int a[f()];");
    wrong("int a[(1 = 2)];");
    wrong("int a[1.0 < 2];");
    wrong("const int n = 3; int a[n];");
    wrong("int a[&a == 0];");
    wrong("enum { A = 1.0 };");
    wrong("enum { A = 1 / 0 };");
    wrong("enum { A = (void *)0 };");
    inMain("switch (i) { case 1 / 0: ; }");
    inMain("switch (i) { case i: ; }");
    inMain("switch (i) { case 1.0: ; }");
    fits("switch (i) { case 1 << 3: case sizeof(int) + 1: case E + 20: case 'x': case -1: ; }");
    Bench.exits("int main(void) { int *p = 0; p = 1 - 1; p = (void *)0; p = (char)0; p = sizeof(int) - 4; return p == 'a' - 97; }", 1);
    inMain("p = 1 / 0 - 1 / 0;");
    inMain("p = 1 / 0;");
    inMain("p = 0.0;");
    inMain("p = (int)0.0;");
    inMain("p = i - i;");
    inMain("p = (0, 0);");
    inMain("p == 1;");
    inMain("p == (i, 0);");
  }

  private static void operands() {
    for (String bad : new String[] {"s * 1", "p * 1", "1 / p", "i % d", "d % 2", "p % 2", "d & 1", "p & 1", "i | fl", "i ^ d", "d << 1", "1 << d",
        "p << 1", "1 >> p", "~d", "~p", "-p", "+p", "+s", "-s", "!s", "!v()", "p + p", "p + d", "d + p", "p - d", "i - p", "p - cp", "p - fp",
        "s + 1", "v() + 1", "1 + v()", "s && 1", "1 && s", "v() || 1", "1 || v()", "s ? 1 : 2", "v() ? 1 : 2", "p < i", "p < cp", "p == cp",
        "p == 1", "p == d", "s == s", "s < 1", "p == fp", "fp == cp", "i == s", "1 ? p : cp", "1 ? p : 1", "1 ? s : u", "1 ? s : 1", "1 ? v() : 1",
        "1 ? 1 : v()", "1 ? p : d", "*i", "*d", "*s", "*v()", "i[i]", "p[p]", "p[d]", "s[0]", "i->m", "s->m", "p->m", "sp.m", "i.m", "s.x", "sp->x",
        "u.m", "++s", "s++", "++v()", "-v()", "undeclared", "s.undeclared", "f(undeclared)", "a.m", "f + 1", "g() + 1", "g() == g()", "d ? s : i",
        "(1, s) + 1", "(s, v()) + 1", "f * 2", "f - f", "i += p", "p += p", "p -= p", "p += d", "p *= 2", "p &= 1", "d %= 2", "d <<= 1", "i <<= d",
        "s += 1", "s *= s", "a += 1", "i += s", "d |= 1", "fp += 1", "fp++", "vp++", "ip--"}) {
      inMain(bad + ";");
    }
    for (String good : new String[] {"d * i", "i / fl", "c % ll", "un & c", "ll << c", "~c", "-d", "+fl", "!p", "!d", "!f", "!a", "p + i", "i + p", "p + ll",
        "p - c", "p - p", "a - p", "a + 1", "p && d", "f || 0", "d ? 1 : 2.0", "p < p", "p < a", "p == vp", "vp == fp", "p == 0", "0 == fp", "p < 0",
        "0 >= p", "f == fp", "f == f", "1 ? p : 0", "1 ? 0 : cp", "1 ? vp : p", "1 ? fp : vp", "1 ? s : s", "1 ? v() : v()", "1 ? (void)0 : v()",
        "1 ? f : fp", "1 ? a : p", "*p", "*a", "*f", "**f", "&*p", "&f", "&a", "&a[1]", "&s.n", "&s", "a[i]", "i[a]", "p[ll]", "\"abc\"[i]", "*\"abc\"",
        "&\"abc\"", "sp->m", "s.m", "g().m", "g().n[1]", "(1 ? s : s).m", "(s = s).m", "(i, s).m", "sp->next->next", "++i", "p++", "d--", "++s.b",
        "c++", "i += d", "d += i", "p += i", "p -= c", "c *= 2.5", "s.b |= 1", "ll <<= 3", "i, v()", "v(), i", "s, s", "(void)s", "(void)v()", "(void)i",
        "sizeof s", "sizeof(a)", "sizeof \"abc\"", "E + 1", "(i)", "((s)).m", "p == (void *)0", "1 ? p : (void *)0", "va(1, 2.0, p)", "cp == \"abc\""}) {
      fits(good + ";");
    }
    Bench.exits("char c; short s; int a[5]; int main(void) { return sizeof(c + c) + sizeof(1 ? c : s) + sizeof(-s) + sizeof(!1.0) + sizeof(c, c) + sizeof(0, a); }",
        4 + 4 + 4 + 4 + 1 + 4);
    Bench.exits("int main(void) { return sizeof(1 + 1u) + sizeof(1 + 1ll) + sizeof(1.0f + 1) + sizeof(1.0f + 1.0) + sizeof(1 < 1.0) + sizeof(1 << 1ll); }",
        4 + 8 + 4 + 8 + 4 + 4);
    Bench.exits("int *p; void *v; int main(void) { return sizeof(*(1 ? p : 0)) + sizeof(*(1 ? (void *)0 : p)) + sizeof(1 ? v : p); }", 12);
    inMain("*(1 ? vp : p);");
    Bench.exits("int a[3]; int (*q)[3] = &a; int main(void) { return sizeof *q + (*q == a) + ((void *)&a == &a[0]); }", 14);
  }

  private static void lvalues() {
    for (String bad : new String[] {"1 = 2", "f = 0", "a = 0", "a = a", "f(1) = 2", "g() = s", "g().m = 1", "g().b = 1", "E = 1", "(i = 1) = 2",
        "(i, i) = 2", "(1 ? i : i) = 2", "-i = 1", "i++ = 1", "++i = 1", "&i = 0", "\"abc\" = 0", "((char)i) = 1", "inc = inc", "s.n = 0",
        "1++", "--1", "(i + 1)++", "f++", "a++", "g().m++", "E++", "(i, i)++", "&1", "&(i + 1)", "&s.b", "&sp->b", "&g()", "&g().m", "&i++", "&(i, i)", "&(s = s)",
        "&(1 ? s : s)", "&E", "&(&i)", "&f(1)", "&(int)i", "&v()", "sizeof i = 4", "s.n++", "++a"}) {
      inMain(bad + ";");
    }
    fits("(i) = 1; *p = 1; a[1] = 2; s.m = 1; sp->m = 2; s.n[1] = 3; *\"abc\" = 'x'; \"abc\"[1] = 'y'; s.b = 3; *&i = 1; (*sp).m = 1; sp[0].n[0] = 1;"
        + " ci = 3; ((s)).m = 1; g().n[0] = 1; *g().n = 2; (&s)->m = 1; &g().n[1]; (*&s).b = 1; s = g(); (s).next = sp; s.next->m = 1;");
  }

  private static void assigning() {
    for (String bad : new String[] {"i = p", "p = i", "p = 1", "p = cp", "cp = p", "p = d", "d = p", "i = s", "s = i", "s = u", "s = sp", "sp = s", "fp = v",
        "fp = p", "p = fp", "fp = cp", "i = v()", "p = v()", "vp = 1", "vp = d", "vp = s", "p = &a", "p = &c", "e = p", "fp = f(1)", "sp = &u"}) {
      inMain(bad + ";");
    }
    fits("i = d; d = i; c = ll; p = 0; p = a; p = vp; vp = p; vp = fp; fp = vp; fp = f; fp = &f; fp = *f; fp = 0; s = s; s = *sp; e = 3; i = e; cp = \"abc\"; p = &a[1];"
        + " vp = 0; p = (void *)0; sp = s.next; un = -1; fl = ll; s.next = &s; vp = &vp; argv[0] = cp;");
    inMain("return s;");
    inMain("return p;");
    inMain("return;");
    inMain("return v();");
    Bench.faults("void h(void) {\n return 1; }" + MAIN, 4, 2);
    Bench.faults("void w(void) {}\nvoid h(void) {\n return w(); }" + MAIN, 4, 3);
    Bench.faults("int *h(void) {\n return 1; }" + MAIN, 4, 2);
    right("int *h(void) { return 0; } void w(void) { return; } double x(void) { return 'a'; } void *y(void) { return \"s\"; }");
    for (String bad : new String[] {"(int)s", "(struct s)i", "(struct s)s", "(int *)d", "(double)p", "(float)vp", "(int)v()", "(int [3])p",
        "(int (void))f", "(union u)i", "(char)g()", "(double)cp"}) {
      inMain(bad + ";");
    }
    fits("(int)p; (char)p; (int *)i; (char *)p; (double)i; (void *)fp; (int (*)(int))p; (long long)p; (void)s; (unsigned char)d; (float)ll; (int *)ll; (int)a; (int)f;");
  }

  private static void calls() {
    for (String bad : new String[] {"f()", "f(1, 2)", "f(p)", "f(s)", "f(v())", "v(1)", "i()", "p()", "d()", "s()", "(*p)()", "g(1)", "fp()", "fp(1, 2)", "va()",
        "va(p)", "va(1, s)", "va(1, v())", "f(1)(2)", "(*i)()", "h3()", "puts", "&puts", "(puts)(\"a\")", "puts + 1", "*puts", "fp = puts", "puts()", "puts(1, 2)",
        "puts(1)", "printf()", "printf(1)", "malloc(p)", "qsort(a, 3, 4, f)", "atexit(f)", "exit()", "strlen(p)", "free(1)", "sizeof puts", "f(puts)",
        "puts ? 1 : 2", "va_start", "va_start(cp, i)", "va_end(cp)", "strtol(\"1\", cp, 0)", "memset(a, 0)", "fputs(\"a\")", "putc(1, 2)", "fgets(cp, 3, p)",
        "putchar(s)", "getchar(1)", "printf(\"a\", s)", "va(1, 2, s, 3)"}) {
      inMain(bad + ";");
    }
    fits("f(1); f(2.5); f('a'); (f)(1); (*f)(1); (**f)(1); (&f)(1); fp(1); (*fp)(1); v(); g(); g().n[0]; va(1); va(1, 2, 3.0, p, \"s\", 4ll, f); f(f(1)); (i ? f : f)(1);"
        + " puts(\"a\"); printf(\"a\", 1, 2.0, p, f); free(p); free(0); p = malloc(4); qsort(a, 3, 4, 0); qsort(a, 3, 4, vp); atexit(v); atexit(0); abs(2.5); putc(1, stdout);"
        + " strlen(vp); sizeof puts(\"a\"); strlen(\"a\") + 1; memcpy(p, a, 4); strchr(cp, 3)[0] = 1; exit(1);");
    fits("int puts = 3; puts++; { int printf; printf = 1; }");
    Bench.exits("int puts(int x) { return x * 2; } int main(void) { return puts(4); }", 8);
    Bench.exits("int f(void) { return printf(\"\"); } int printf; int main(void) { printf = 5; return printf + f(); }", 5);
    Bench.faults("int puts(const char *);\nint main(void) { return puts(\"a\"); }", 4, 2);
    Bench.exits("typedef int abs; abs x = 4; int main(void) { return x; }", 4);
    Bench.faults("int main(void) {\n int puts(const char *);\n puts(\"a\");\n return 0; }\n", 4, 4);
    Bench.faults("struct s f(void);\nint main(void) {\n f();\n return 0; }\n", 4, 3);
    Bench.faults("struct s f(void);\nstruct s { int a; };\nint main(void) {\n f();\n return 0; }\n", 4, 5);
    String va = "int h(int n, ...) { va_list ap; char *cp; int x; ";
    for (String bad : new String[] {"va_start(ap)", "va_start(ap, x)", "va_start(ap, n + 0)", "va_start(x, n)", "va_start(ap, n, n)", "va_start()", "va_end()", "va_end(x)",
        "va_end(ap, ap)", "va_arg(ap, char)", "va_arg(ap, short)", "va_arg(ap, float)", "va_arg(x, int)", "va_arg(ap + 0, int)", "va_arg(ap, void)",
        "va_arg(ap, struct s { int a; })", "va_arg(&ap, int)", "va_start(ap, 1)", "va_start(\"a\", n)", "x = va_start(ap, n)", "va_arg(ap, int [3])"}) {
      Bench.faults(va + "\n" + bad + "; return 0; }" + MAIN, 4, 2);
    }
    right(va + "va_start(ap, n); va_start(cp, (n)); x = va_arg(ap, int); va_arg(cp, unsigned); va_arg(ap, long long); va_arg(ap, unsigned long long);"
        + " va_arg(ap, double); va_arg(ap, char *); va_arg(ap, int (*)(void)); va_end(ap); va_end((cp)); enum { Q }; va_arg(ap, enum { R }); return x; }");
    Bench.faults("int h(int n) { va_list ap;\n va_arg(ap, int); return 0; }" + MAIN, 4, 2);
    Bench.faults("int h(int n, int m, ...) { va_list ap;\n va_start(ap, n); return 0; }" + MAIN, 4, 2);
  }

  private static void initialisers() {
    for (String bad : new String[] {"int x = {}", "int x = {{1}}", "int x = {1, 2}", "int x = s", "int x = p", "int *x = 1", "int x[2] = {1, 2, 3}", "int x[2] = 1",
        "int x[2] = a", "int x[2] = {[2] = 1}", "int x[2] = {[-1] = 1}", "int x[] = {}", "int x[2] = {.m = 1}", "struct s x = {.x = 1}", "struct s x = {[0] = 1}",
        "struct s x = 1", "struct s x = u", "union u x = {1, 2}", "int x = {[0] = 1}", "int x = {.m = 1}", "char x[2] = \"abc\"", "char x[2] = {\"abc\"}",
        "char x[3] = {\"ab\", 'c'}", "char x[] = {'a', \"b\"}", "int x[] = \"abc\"", "char x[] = 'a'", "struct s x = {1, {2, 3, 4}}", "int x[2][2] = {{1, 2, 3}}",
        "int x[2] = {s}", "struct s x = {{{1}}}", "void x = 1", "int x(void) = 1", "typedef int x = 1", "char x[3] = {[0] = \"ab\"}", "int x[2] = {{1, 2}}",
        "int x[2] = {p}", "struct s x[1] = {1, 2, 3, 4, 0, 5}", "char *x = {\"a\", \"b\"}", "int x[] = {[262144] = 1}", "int x[] = {[-1] = 1}",
        "int x[2] = {[0.5] = 1}", "int x[2] = {[i] = 1}", "int x[2] = {[0][0] = 1}", "struct s x = {.m.n = 1}", "int x = {{}}", "int x = v()",
        "struct s x = {.b = p}", "int x[1][1] = {{[1] = 2}}", "unsigned short x[] = \"ab\"", "struct s x = {1, 2, 3, 4, 0, 5}", "union u x = {.a = 1, 2}",
        "long long x[] = {[65535] = 1}", "char x[5] = {(\"abcdef\")}"}) {
      inMain(bad + ";");
      if (!bad.contains("[i]")) {
        Bench.faults(DECLARATIONS + "\n" + bad + ";" + MAIN, 4, 3);
      }
    }
    fits("int x = {1}, y = {2,}; int *q = {0}; int b[3] = {1, 2}, b2[] = {1, 2, 3}, b3[] = {[5] = 1, 2, [1] = 3}; char t[] = \"abc\", t2[3] = \"abc\", t3[] = {\"abc\"},"
        + " t4[9] = {(\"abc\")}, t5[] = {\"abc\",}; unsigned char t6[] = \"x\"; struct s x1 = {1}, x2 = {1, {2, 3}, 4, 0}, x3 = {1, 2, 3, 4, 0}, x4 = s, x5 = g(), x6 = {.n = {1}},"
        + " x7 = {.n[1] = 2, 3}, x8[] = {1, 2, 3, 4, 0, 5}, x9[2] = {s, {1}, }, x10 = {.b = 1, .m = 2}, x11 = {}; union u u1 = {1}, u2 = {.a = 2}, u3 = u; int m[2][2] = {1, 2, 3, 4},"
        + " m2[2][2] = {{1}, {2}}, m3[][2] = {1, 2, 3}, m4[2] = {{1}, {2}}; char n1[2][3] = {\"ab\", \"cd\"}, n2[][4] = {{\"abc\"}, {'a', 'b'}}; struct s *z = {sp}; int e0[3] = {};"
        + " int e1[2] = {[0] = 1, [0] = 2}; union u u4 = {.a = 1, .a = 2}; struct { struct s a, b; } y1 = {s, s}, y2 = {.b.n[1] = 3}, y3 = {{1}, 2}; char n3[2][2] = {\"a\", 'b', 'c'};");
    inMain("static int x = argc;");
    inMain("int y; static int x = y;");
    inMain("static int x = f(argc);");
    inMain("int y; static int *x = &y;");
    inMain("extern int x = argc;");
    fits("int y; static int x = sizeof y; static int z = E; static int w = i; static int *q = &i; static int r = f(3); static int *k = &x; static int n = sizeof(argc + 1);");
    fits("static int x = sizeof x; static int y = 3, z = y; { static int *w = &y; }");
    Bench.exits("int main(void) { extern int x[] = { 1, 2, 3 }; return x[2]; }", 3);
  }

  private static void statements() {
    for (String bad : new String[] {"break;", "continue;", "switch (i) { continue; }", "case 1: ;", "default: ;", "switch (d) ;", "switch (p) ;", "switch (s) ;", "switch (v()) ;",
        "if (s) ;", "if (v()) ;", "while (s) ;", "do ; while (v());", "for (; s; ) ;", "switch (i) { case 1: case 1: ; }", "switch (i) { default: default: ; }",
        "switch (c) { case 1: case 4294967297ll: ; }", "{ break; }", "if (i) continue;", "switch (i) { case 1: switch (i) { case 1: case 1: ; } }", "a: ; a: ;",
        "{ a: ; } { a: ; }", "undeclared: undeclared;", "for (int k = 0; k < 1; k++) ; k = 1;", "for (undeclared; ; ) ;", "for (; ; undeclared) ;"}) {
      inMain(bad);
    }
    Bench.faults("int main(void) {\n goto nowhere;\n return 0;\n}\nint x;", 4, 4);
    Bench.faults("int main(void) {\n goto a;\n return 0;\n}\nint f(void) { a: return 0; }", 4, 4);
    fits("while (1) { switch (i) { case 1: continue; default: break; } break; } do continue; while (0); for (;;) { if (1) break; } switch (i) { case 1: while (1) { case 2: break; } }"
        + " switch (ll) { case 4294967297ll: case 1: ; } switch (c) { case 1: case 257: ; } switch (i) { case 1: switch (i) { case 1: default: ; } default: ; } switch (i) ;"
        + " { goto b; } b: a: ; goto a;");
    inMain("switch (un) { case -1: case 4294967295u: ; }");
    inMain("switch (ll) { case 1: case 1u: ; }");
  }

  private static void wholeUnit() {
    Bench.faults("int x;\nint y;\n", 4, 2);
    Bench.faults("int main(void);\nint y;\n", 4, 2);
    for (String bad : new String[] {"void main(void) { }", "int main(int a) { return 0; }", "int main(int a, char *b) { return 0; }", "int main(int a, char **b, ...) { return 0; }",
        "int main;", "typedef int main;", "enum { main };", "char main(void) { return 0; }", "int main(char **a, int b) { return 0; }", "int main(int, int);", "int *main(void) { return 0; }",
        "int main(unsigned a, char **b) { return 0; }", "int main(int a, char **b, char **c) { return 0; }"}) {
      Bench.faults("\n" + bad + "\nint x;\n", 4, 2);
    }
    Bench.exits("int main() { return 1; }", 1);
    Bench.exits("static int main(int argc, char *argv[]) { return argc; }", 1);
    Bench.exits("int main(const int argc, const char **const argv) { return argc; }", 1);
    Bench.exits("typedef int I; I main(void) { int main = 3; return main; }", 3);
    Bench.exits("int main(void); int f(void) { return main(); } int main(void) { static int n; return n++ < 3 ? f() : n; }", 4);
  }

  private static void linesOfFaults() {
    Bench.faults("int\nx = \n1.0 = 2;" + MAIN, 4, 1);
    Bench.faults("static\n\nstruct s {\n int a;\n\n void b;\n} x;" + MAIN, 4, 1);
    Bench.faults("int x,\n y = sizeof(\n const struct { int a;\n int a; });" + MAIN, 4, 3);
    Bench.faults("int f(int a,\n enum nope b);" + MAIN, 4, 2);
    Bench.faults("int f(int a,\n struct s { int c; int c; } *b);" + MAIN, 4, 2);
    Bench.faults("int f(int a,\n int a);" + MAIN, 4, 1);
    Bench.faults("int f(int a,\n static int b);" + MAIN, 4, 1);
    Bench.faults("int f(int a,\n static struct s { int a; } b);" + MAIN, 4, 1);
    Bench.faults("int f(int a,\n const const struct s { int a; } b);" + MAIN, 4, 2);
    Bench.faults("int f(int a,\n const const int b);" + MAIN, 4, 1);
    Bench.faults("struct s {\n struct t {\n int a;\n int a; } b;\n };" + MAIN, 4, 2);
    Bench.faults("struct s {\n struct t\n *a;\n struct t b;\n };" + MAIN, 4, 1);
    Bench.faults("struct s {\n int struct {\n int a; int a; } b;\n };" + MAIN, 4, 2);
    Bench.faults("struct s {\n int a;\n struct { int a; } int b;\n };" + MAIN, 4, 3);
    Bench.faults("enum {\n A,\n B = 1 / 0 };" + MAIN, 4, 1);
    Bench.faults("int main(void) {\n int x;\n x =\n undeclared;\n}", 4, 3);
    Bench.faults("int main(void) {\n if (1)\n  while (0)\n   undeclared;\n}", 4, 4);
    Bench.faults("int main(void) {\n if (\n undeclared)\n  while (0)\n   ;\n}", 4, 2);
    Bench.faults("int main(void) {\n for (int i = 0;\n undeclared; )\n  ;\n}", 4, 2);
    Bench.faults("int main(void) {\n for (\n int i = undeclared;\n ; )\n  ;\n}", 4, 3);
    Bench.faults("int main(void) {\n for (;\n;\nfirst) second;\n}", 4, 2);
    Bench.faults("int main(void) {\n for (;\n;\n1)\n second;\n}", 4, 5);
    Bench.faults("int main(void) {\n do\n first;\n while (second);\n}", 4, 3);
    Bench.faults("int main(void) {\n do\n ;\n while (second);\n}", 4, 2);
    Bench.faults("int main(void) {\n a:\n b:\n undeclared;\n}", 4, 4);
    Bench.faults("int main(void) {\n switch (1) {\n case 1:\n case\n 1: ; }\n}", 4, 4);
    Bench.faults("int main(void) {\n a: ;\n {\n a\n : ; }\n}", 4, 4);
    Bench.faults("int main(void) {\n return\n sizeof(struct {\n int a, a; });\n}", 4, 3);
    Bench.faults("int main(void) {\n return\n undeclared + sizeof(struct {\n int a, a; });\n}", 4, 2);
    Bench.faults("int main(void) {\n struct s { int a; } s; int *p; return\n (s & sizeof(struct {\n int a, a; }));\n}", 4, 3);
    Bench.faults("int main(void) {\n void v(void); return\n v() + sizeof(struct {\n int a, a; });\n}", 4, 2);
    Bench.faults("int main(void) {\n return\n 1 = sizeof(struct {\n int a, a; });\n}", 4, 2);
    Bench.faults("int main(void) {\n return\n 1(sizeof(struct {\n int a, a; }));\n}", 4, 2);
    Bench.faults("int f(void) { return 0; } int main(void) {\n return\n f(1, sizeof(struct {\n int a, a; }));\n}", 4, 2);
    Bench.faults("int f(int a, int b) { return 0; } int main(void) {\n return\n f(\"a\", sizeof(struct {\n int a, a; }));\n}", 4, 2);
    Bench.faults("int main(void) {\n int a[\n 2] = {\n 1, 2,\n 3 + sizeof(struct {\n int a, a; }) };\n}", 4, 2);
    Bench.faults("struct {\n int a;\n} x, y[\n0];" + MAIN, 4, 1);
    Bench.faults("int f(int a) {\n int\n a;\n return 0; }" + MAIN, 4, 2);
    Bench.faults("void\n f(\n int) {\n }" + MAIN, 4, 1);
    Bench.faults("int x;\nint\nf(void) { return\n 0; }\nint\nf(void)\n{ return 0; }" + MAIN, 4, 5);
  }
}
