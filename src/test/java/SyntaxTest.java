/** What is a unit and what is not, at which token, and how deep it may be. */
public final class SyntaxTest {
  public static void main(String[] args) {
    externals();
    specifiers();
    declarators();
    parametersAndTypeNames();
    initialisers();
    statements();
    expressions();
    typedefNames();
    depth();
    Bench.finish();
  }

  /** Each token of the text stands on a line of its own: the one with this number is the first wrong one. */
  private static void wrong(int token, String text) {
    Bench.faults(text.replace(" ", "\n"), 3, token);
  }

  /** The same for what stands in a function, counted from 1. */
  private static void inMain(int token, String text) {
    wrong(token + 5, "int main ( ) { " + text);
  }

  private static void right(String text) {
    Bench.exits(text + "\nint main(void) { return 0; }\n", 0);
  }

  private static void externals() {
    Bench.faults("", 4, 1);
    Bench.faults("\n\n", 4, 1);
    wrong(1, ";");
    wrong(1, "x ;");
    wrong(1, "main ( ) { }");
    wrong(1, "{ }");
    wrong(1, "int");
    wrong(2, "int x");
    wrong(4, "int x ; ;");
    wrong(3, "int x { }");
    wrong(5, "int ( x ) { }");
    wrong(6, "int f ( ) ; { }");
    wrong(6, "int f ( ) , { }");
    wrong(7, "int a , f ( ) { }");
    wrong(8, "int f ( ) [ 3 ] { }");
    wrong(7, "int f ( ) { } }");
    wrong(6, "int f ( ) = ; }");
    wrong(7, "int ( f ( ) ) x ;");
    wrong(7, "int ( f ( ) ) { }");
    right("typedef int t; t; int; struct s;");
    right("int *f(int a) { return 0; } int (*g(int a))(int b) { return 0; }");
    Bench.faults("int (f)(int a) { return 0; }\nint main(void) { return 0; }", 4, 1);
    Bench.faults("int (*f)(int a) { return 0; }\nint main(void) { return 0; }", 4, 1);
  }

  private static void specifiers() {
    wrong(2, "struct ;");
    wrong(2, "struct int");
    wrong(3, "struct { ; } x ;");
    wrong(4, "struct { int ; } x ;");
    wrong(3, "struct { static int a ; } x ;");
    wrong(3, "struct { typedef int a ; } x ;");
    wrong(3, "struct { register int a ; } x ;");
    wrong(5, "struct { int a }");
    wrong(6, "struct { int a , ; }");
    wrong(6, "struct { int a : ; }");
    wrong(5, "struct { int : ; }");
    wrong(5, "struct { int a = 3 ; } x ;");
    wrong(5, "struct { struct b ; } x ;");
    wrong(5, "struct { } ; }");
    wrong(2, "enum ;");
    wrong(3, "enum { } x ;");
    wrong(3, "enum { , a } x ;");
    wrong(5, "enum { a = } x ;");
    wrong(5, "enum { a , , } x ;");
    wrong(4, "enum { a b } x ;");
    wrong(6, "enum { a = 1 2 } x ;");
    right("enum { A, B, } x; enum e { C = 1, D = C + 1 } y; enum e z;");
    right("int long unsigned a; long static const long unsigned int b;");
    right("struct { int a : 3, : 2, b; unsigned : 0; char c; } x;");
  }

  private static void declarators() {
    wrong(3, "int * ;");
    wrong(3, "int ( ) ;");
    wrong(3, "int ( 3 ) ;");
    wrong(2, "int [ 3 ] ;");
    wrong(3, "int a [");
    wrong(4, "int a [ )");
    wrong(5, "int a [ 3 ;");
    wrong(5, "int a [ 3 , 4 ] ;");
    wrong(5, "int a [ b = 1 ] ;");
    wrong(3, "int a b ;");
    wrong(4, "int a , ;");
    wrong(4, "int a = ;");
    wrong(4, "int * const ;");
    wrong(4, "int ( a ;");
    wrong(4, "int * const static a ;");
    right("int *const volatile *a, *(*b)[3], (*c)(void), (*(*d)(int))[2], ((e)), *restrict f;");
  }

  private static void parametersAndTypeNames() {
    wrong(4, "int f ( a ) ;");
    wrong(5, "int f ( int ;");
    wrong(6, "int f ( int , ) ;");
    wrong(4, "int f ( ... ) ;");
    wrong(7, "int f ( int , ... , int ) ;");
    wrong(6, "int f ( int a b ) ;");
    wrong(5, "int f ( void 5 ) ;");
    wrong(4, "int f ( , ) ;");
    wrong(6, "int f ( int ( 3 ) ) ;");
    wrong(6, "int f ( int ( register int ) ) ;");
    right("int f(void), g(), h(int, ...), i(int ()), j(int (void)), k(int (*)(int)), l(int (a)), m(int [3]), n(int *[]),"
        + " o(const void), p(register int a), q(int (*(*)[2])(int)), r(int ((*))), s(int ([2])), t(int (()));");
    inMain(6, "x = sizeof ( int y ) ;");
    inMain(2, "( static int ) 3 ;");
    inMain(5, "sizeof ( int * a ) ;");
    inMain(4, "( int ) ;");
    inMain(4, "( int ) { 3 } ;");
    Bench.exits(Bench.main("return sizeof(int *) + sizeof(int (*)(void)) + sizeof(int [3]) + sizeof(int (*[2])[7]) + sizeof(const char);"),
        4 + 4 + 12 + 8 + 1);
  }

  private static void initialisers() {
    wrong(5, "int a = { , } ;");
    wrong(7, "int a = { 1 , , } ;");
    wrong(5, "int a = { ; }");
    wrong(7, "int a = { . x }");
    wrong(8, "int a = { [ 0 ] 1 } ;");
    wrong(6, "int a = { . = 1 } ;");
    wrong(6, "int a = { [ ] = 1 } ;");
    wrong(6, "int a = { 1 ;");
    wrong(5, "int a = 1 2 ;");
    wrong(6, "int a = 1 , 2 ;");
    wrong(8, "int a = { 1 + 2 = 3 } ;");
    right("int a[3] = { [1] = 2, 3, }, b[] = { { 1 }, }; struct { int x, y[2]; } c = { .y[1] = 3, .x = 1 }, d = { 0 };");
  }

  private static void statements() {
    inMain(2, "if x ;");
    inMain(3, "if ( ) ;");
    inMain(5, "if ( 1 ) ) ;");
    inMain(1, "else ;");
    inMain(7, "if ( 1 ) ; ; else ;");
    inMain(5, "if ( 1 ) else ;");
    inMain(2, "while ;");
    inMain(3, "do ; x ( 1 ) ;");
    inMain(6, "do ; while ( 1 )");
    inMain(4, "for ( ; ) ;");
    inMain(6, "for ( ; ; 1 ; ) ;");
    inMain(3, "for ( ) ;");
    inMain(5, "for ( int i ) ;");
    inMain(2, "goto ;");
    inMain(2, "goto 3 ;");
    inMain(3, "goto a + ;");
    inMain(2, "break 1 ;");
    inMain(2, "continue 1 ;");
    inMain(2, "return 1");
    inMain(2, "return ) ;");
    inMain(2, "case : ;");
    inMain(3, "case 1 ;");
    inMain(3, "case 1 , 2 : ;");
    inMain(2, "default ;");
    inMain(3, "a : }");
    inMain(3, "a : int b ;");
    inMain(5, "if ( 1 ) int b ;");
    inMain(5, "while ( 1 ) static int b ;");
    inMain(1, "1");
    inMain(1, ") ;");
    inMain(3, "int a }");
    wrong(5, "int main ( ) {");
    wrong(6, "int main ( ) { ;");
    Bench.exits("int main(void) { int i = 0; ; { } { ; } a: b: i++; if (i < 3) goto a; else ; do i++; while (i < 9);"
        + " for (;;) { break; } for (int j = 0, k = 1; j < k; j++, k--) ; switch (i) { case 1 ? 9 : 0: default: ; } return i; }", 9);
    Bench.exits("int main(void) { if (1) if (0) return 1; else return 2; return 3; }", 2);
    Bench.exits("int main(void) { if (1) { if (0) return 1; } else return 2; return 3; }", 3);
  }

  private static void expressions() {
    inMain(2, "x y ;");
    inMain(3, "x + ;");
    inMain(3, "x = ;");
    inMain(4, "x + y = 3 ;");
    inMain(5, "( int ) x = 3 ;");
    inMain(6, "x ? y : z = 3 ;");
    inMain(4, "x && y = 3 ;");
    inMain(6, "x = y + z = 3 ;");
    inMain(3, "x = = 3 ;");
    inMain(3, "x ? : y ;");
    inMain(4, "x ? y ;");
    inMain(2, "3 : y ;");
    inMain(3, "( x ;");
    inMain(2, "( ) ;");
    inMain(3, "x [ ] ;");
    inMain(4, "x [ y ;");
    inMain(3, "f ( , ) ;");
    inMain(5, "f ( x , ) ;");
    inMain(4, "f ( x ;");
    inMain(3, "x . 3 ;");
    inMain(3, "x -> ;");
    inMain(2, "++ ;");
    inMain(3, "++ ( int ) x ;");
    inMain(5, "sizeof ( int ) x ;");
    inMain(5, "sizeof ( int ) [ 3 ] ;");
    inMain(5, "sizeof ( int ) ++ ;");
    inMain(2, "sizeof ;");
    inMain(2, "3 3 ;");
    inMain(3, "x , , y ;");
    inMain(1, ": ;");
    inMain(2, "va_arg ;");
    inMain(4, "va_arg ( x ) ;");
    inMain(5, "va_arg ( x , 3 ) ;");
    inMain(6, "va_arg ( x , int ;");
    inMain(2, "int va_arg ;");
    inMain(3, "x . va_arg ;");
    inMain(2, "goto va_arg ;");
    inMain(2, "va_arg : ;");
    wrong(2, "struct va_arg { int a ; } ;");
    Bench.exits("int x, *p = &x; int main(void) { *p = 1; -x; !(int)x; (x) = (x ? x = 4, x : 2) + 1; sizeof x; p[0]++; ++*p; return x; }", 7);
    // An assignment to what is a unary is right for the syntax.
    Bench.faults("int main(void) { int x; -x = 3;\n x++ = 4; }", 4, 1);
    Bench.faults("int main(void) { int x; !(int)x = 3; }", 4, 1);
    Bench.faults("int main(void) { int x; sizeof x = 3; }", 4, 1);
    Bench.faults("int a = { 1 = 2 };", 4, 1);
  }

  private static void typedefNames() {
    right("size_t a; FILE *b; va_list c;");
    Bench.exits("typedef int T; T a = 3; int main(void) { int T = 2; { typedef char T; T x = 1; a += sizeof(T) + x; } return T * a; }", 10);
    Bench.exits("typedef int T; int f(T T) { return T + 1; } int main(void) { T: ; goto U; U: return f(3); }", 4);
    Bench.exits("typedef int T; struct T { T T; } x; int main(void) { x.T = 5; return x.T; }", 5);
    Bench.exits("typedef int T; int main(void) { T T = 3; return T * T; }", 9);
    Bench.exits("typedef int T; int main(void) { enum { T = 4 }; return T * 2; }", 8);
    Bench.exits("typedef int T; int main(void) { enum { A = sizeof(T), T }; return T; }", 5);
    Bench.exits("typedef int T; int main(void) { for (int T = 0; T < 3; T++) ; T x = 7; return x; }", 7);
    Bench.exits("typedef int T; int g(int T, int a[sizeof T]); int main(void) { T x = 7; return x; }", 7);
    Bench.exits("typedef char T; int f(int (*T)(T)); int g(T x) { return sizeof x; } int main(void) { return g(1); }", 1);
    Bench.exits("typedef char T; int f(int T) { return sizeof T; } T x; int main(void) { return f(1) + sizeof x; }", 5);
    Bench.exits("typedef char T; int f(int a[sizeof(T)], T T) { { T += 1; } return T; } int main(void) { return f(0, 1); }", 2);
    Bench.exits("typedef char T; int (*f(int T))(T); int (*f(int T))(char) { T = 3; return 0; } int main(void) { return f(1) == 0; }", 1);
    Bench.exits("typedef int T; int main(void) { int i = 3; { T(i); i = 4; } return i; }", 3);
    Bench.exits("typedef int T; int main(void) { T *p, i = 2; p = &i; return *p * (T)3; }", 6);
    wrong(11, "typedef int T ; int main ( ) { + T ; }");
    Bench.faults("typedef int T;\nint main(void) {\n int T;\n T\n x; }", 3, 5);
    Bench.faults("typedef int T;\nint main(void) {\n if (1)\n T\n x; }", 3, 5);
    Bench.faults("typedef int T;\nint main(void) {\n if (1)\n T", 3, 4);
    Bench.exits("typedef int T;\nint main(void) {\n if (1)\n T\n :\n return 3; }", 3);
    Bench.faults("int main(void) { { typedef int T; T a; }\n T\n a; }", 3, 3);
    Bench.faults("typedef int T; T f(T T,\n T a) { return 0; }", 3, 2);
    Bench.faults("typedef int T; int main(void) { for (int T = 0; ; )\n T\n a; }", 3, 3);
    Bench.faults("typedef int T; enum { T2 = 1, T }; \nT x;", 3, 2);
    Bench.faults("typedef int T; int T = 1;\nT x;", 3, 2);
    right("typedef int T; int f(const T);");
    Bench.exits("typedef struct { int a; } P, *Q; P x = { 3 }; Q y = &x; int main(void) { return y->a + sizeof(P); }", 7);
    Bench.exits("typedef int A, B; A a = 1; B b = 2; int main(void) { return a + b; }", 3);
    Bench.exits("typedef int f_t(int); f_t f; int f(int a) { return a; } int main(void) { f_t *p = f; return p(6); }", 6);
    wrong(9, "typedef int f ( ) ; f x { }");
  }

  private static String nested(String open, int times, String inner, String close) {
    return open.repeat(times) + inner + close.repeat(times);
  }

  /** So many of what opens are not too deep; one more is, at its own line. */
  private static void deep(int most, String before, String open, String inner, String close, String behind) {
    Bench b = new Bench();
    int code = b.source(before + nested(open, most, inner, close) + behind).x.compile();
    Bench.due("deep enough " + open + " at line " + b.x.faultLine(), code == 5 || code == 3 ? code : 0, 0);
    Bench.faults(before + open.repeat(most) + "\n" + open + inner + close.repeat(most + 1) + behind, 5, 3);
  }

  private static void depth() {
    // The body's { is 1 deep.
    deep(39, "int main(void) { return\n", "(", "1", ")", "; }");
    deep(39, "int a[9]; int main(void) { return\n", "a[", "1", "]", "; }");
    deep(39, "int f(int a) { return a; } int main(void) { return\n", "f(", "1", ")", "; }");
    deep(38, "int main(void) { int x = 1; return ~\n", "~", "x", "", "; }");
    deep(38, "int main(void) { int x = 1; return\n", "~", "(x)", "", "; }");
    deep(39, "int main(void) {\n", "{", "", "}", "}");
    deep(40, "int x =\n", "(", "1", ")", "; int main(void) { return 0; }");
    deep(40, "int x =\n", "{", "1", "}", "; int main(void) { return 0; }");
    deep(40, "int\n", "(", "x", ")", "; int main(void) { return 0; }");
    deep(40, "int f\n", "(int g", "", ")", "; int main(void) { return 0; }");
    Bench.exits("int main(void) { int x; return " + "x = ".repeat(39) + "3; }", 3);
    Bench.faults("int main(void) { int x; return " + "x = ".repeat(39) + " x =\n 3; }", 5, 2);
    Bench.exits("int main(void) { return " + "0 ? 1 : ".repeat(39) + "3; }", 3);
    Bench.faults("int main(void) { return " + "0 ? 1 : ".repeat(39) + "0 ?\n 1\n : 3; }", 5, 2);
    Bench.faults("int main(void) { return " + "0 ? 1 : ".repeat(39) + "0 ?\n )", 3, 2);
    Bench.exits("int main(void) { return " + "(int)".repeat(39) + "3; }", 3);
    Bench.faults("int main(void) { return " + "(int)".repeat(39) + "\n(int)3; }", 5, 2);
    Bench.exits("int main(void) { return " + "sizeof ".repeat(39) + "3; }", 4);
    Bench.faults("int main(void) { return " + "sizeof ".repeat(39) + "sizeof\n 3; }", 5, 2);
    Bench.faults("int main(void) { return " + "!".repeat(39) + "!\n 3; }", 5, 2);
    Bench.faults("int main(void) { return " + "!".repeat(39) + "!\n ; }", 3, 2);
    Bench.exits("int main(void) { " + "if (1) ".repeat(39) + "return 3; return 4; }", 3);
    Bench.faults("int main(void) { " + "if (1) ".repeat(39) + "if\n (1) return 3; }", 5, 2);
    Bench.faults("int main(void) { " + "do ".repeat(39) + "do\n ; while (0);" + " while (0);".repeat(39) + " return 3; }", 5, 2);
    Bench.exits("int main(void) { switch (1) { default: ; } return 3; }", 3);
    String labels = "";
    for (int i = 0; i < 39; i++) {
      labels += "l" + i + ": ";
    }
    Bench.exits("int main(void) { " + labels + "return 3; }", 3);
    Bench.faults("int main(void) { " + labels + "l:\n return 3; }", 5, 2);
    Bench.exits("int main(void) { " + "do ".repeat(39) + ";" + " while (0);".repeat(39) + " return 3; }", 3);
    Bench.exits("int main(void) { " + "if (0) ; else ".repeat(39) + " return 3; }", 3);
    Bench.exits("int main(void) { " + "if (1) {".repeat(19) + "return 3;" + "}".repeat(19) + " }", 3);
    Bench.faults("int main(void) { " + "if (1) {".repeat(19) + "if (1)\n {\n return 3; }" + "}".repeat(19) + " }", 5, 2);
    Bench.exits("int " + "*".repeat(40) + "x; int main(void) { return x == 0; }", 1);
    Bench.faults("int " + "*".repeat(41) + "\nx; int main(void) { return x == 0; }", 5, 2);
    Bench.exits("int " + "*".repeat(39) + "x[1]; int main(void) { return x[0] == 0; }", 1);
    Bench.faults("int " + "*".repeat(40) + "x\n[1]; int main(void) { return x[0] == 0; }", 5, 2);
    Bench.exits("int " + "(*".repeat(20) + "x" + ")".repeat(20) + "; int main(void) { return x == 0; }", 1);
    Bench.faults("int " + "(*".repeat(20) + "\n(x)" + ")".repeat(20) + "; int main(void) { return x == 0; }", 5, 2);
    Bench.exits("struct { ".repeat(40) + "int a; " + "} b; ".repeat(39) + "} x; int main(void) { return sizeof x; }", 4);
    Bench.faults("struct { ".repeat(40) + "struct\n { int a; } b;" + "} b; ".repeat(40), 5, 2);
    Bench.exits("int main(void) { return " + "1 + ".repeat(500) + "1 - 500; }", 1);
    Bench.exits("int main(void) { int x = 0; " + "x++, ".repeat(500) + "x; return x - 490; }", 10);
    Bench.exits("int main(void) { int x = 0; " + "x++; ".repeat(500) + " return x - 490; }", 10);
    Bench.exits("int a" + "[1]".repeat(300) + "; int main(void) { return sizeof a; }", 4);
    Bench.faults("typedef int T; int main(void) { return " + "~".repeat(40) + "\n1; }", 5, 2);
    Bench.faults("typedef int T; int main(void) { return " + "~".repeat(40) + "\nT; }", 3, 2);
    Bench.faults("typedef int T; int main(void) { int x; " + "x = ".repeat(40) + "\nT; }", 3, 2);
    Bench.faults("typedef int T; int main(void) { return " + "1 ? ".repeat(40) + "\nT; }", 3, 2);
    Bench.faults("typedef int T; int main(void) { return " + "1 ? ".repeat(40) + "\n1; }", 5, 2);
    Bench.exits("int main(void) { return sizeof(int) * " + nested("(", 38, "sizeof(int)", ")") + "; }", 16);
    Bench.faults("int main(void) { return sizeof(int) * " + nested("(", 39, "sizeof\n(int)", ")") + "; }", 5, 2);
  }
}
