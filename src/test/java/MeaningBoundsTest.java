/** The boundary cases of sections 5 and 6 and of what section 9 adds to them, sentence by sentence. */
public final class MeaningBoundsTest {
  private static final String MAIN = "\nint main(void) { return 0; }\n";

  public static void main(String[] args) {
    wordsOfTypes();
    layoutsOfRecords();
    bitFields();
    lengthsAndSizes();
    constantExpressions();
    noConstants();
    enumerators();
    tagsInBlocks();
    declaredAgain();
    declaredInBlocks();
    declaredOtherwise();
    usedAndDefined();
    completedLater();
    completeThere();
    voids();
    answersOfFunctions();
    sameTypes();
    nullPointers();
    operandsOfOperators();
    incrementsAndCompounds();
    lvalues();
    choices();
    castsAndReturns();
    calls();
    initialiserForms();
    openArrays();
    staticNames();
    labelsAndCases();
    mains();
    Bench.finish();
  }

  private static void right(String text) {
    Bench b = new Bench().source(text + MAIN);
    Bench.due(text + " at line " + b.x.faultLine(), b.x.compile(), 0);
  }

  private static void wrong(String text) {
    Bench.faults(text + MAIN, 4, 1);
  }

  private static final String HEAD = "int i, *p, a[3], f(int x), (*fp)(int); double d; float fl; char c, *cp; void *vp; struct s { int m, n[2]; unsigned b : 3; } s, *sp, g(void); union u { int a; } u, *up; void v(void); enum e { E, Z = 0, ONE }; extern struct inc inc; struct inc *ip; int va(int n, ...); const int ci;"
      + " int f(int x) { return x; } struct s g(void) { return s; } void v(void) { } int va(int n, ...) { return n; }\n";

  /** The expression statements, in a function, are right (or, each alone, fault 4). */
  private static void fits(String... expressions) {
    for (String expression : expressions) {
      Bench b = new Bench().source(HEAD + "int main(void) {\n" + expression + "; return 0; }");
      Bench.due(expression + " at line " + b.x.faultLine(), b.x.compile(), 0);
    }
  }

  private static void faulty(String... expressions) {
    for (String expression : expressions) {
      Bench.faults(HEAD + "int main(void) {\n" + expression + "; return 0; }", 4, 3);
    }
  }

  /** "Words may come in any order: short, long, long long, with or without int, signed, unsigned; unsigned alone; signed alone." "no word twice but long" */
  private static void wordsOfTypes() {
    String[][] types = {{"char", "1s"}, {"signed char", "1s"}, {"unsigned char", "1u"}, {"short", "2s"}, {"short int", "2s"}, {"signed short", "2s"}, {"signed short int", "2s"}, {"unsigned short", "2u"}, {"unsigned short int", "2u"}, {"int", "4s"}, {"signed", "4s"}, {"signed int", "4s"},
        {"unsigned", "4u"}, {"unsigned int", "4u"}, {"long", "4s"}, {"long int", "4s"}, {"signed long", "4s"}, {"signed long int", "4s"}, {"unsigned long", "4u"}, {"unsigned long int", "4u"}, {"long long", "8s"}, {"long long int", "8s"}, {"signed long long", "8s"},
        {"signed long long int", "8s"}, {"unsigned long long", "8u"}, {"unsigned long long int", "8u"}};
    for (String[] type : types) {
      int size = type[1].charAt(0) - '0';
      int due = size + (type[1].endsWith("u") ? 16 : 0);
      for (String order : new String[] {type[0], reversed(type[0]), "const " + type[0], type[0] + " volatile", rotated(type[0]), "register " + rotated(type[0]) + " const"}) {
        Bench.exits("int main(void) { " + order + " x = -1; return sizeof x + 16 * (x > 0); }", due);
      }
    }
    String[] all = {"void", "char", "short", "int", "long", "float", "double", "signed", "unsigned"};
    java.util.Set<String> good = new java.util.HashSet<>();
    for (String[] type : types) {
      good.add(sorted(type[0]));
    }
    good.add("float");
    good.add("double");
    for (String a : all) {
      for (String b : all) {
        for (String c : new String[] {"", "int", "long", "unsigned", "char"}) {
          String words = (a + " " + b + " " + c).trim();
          if (good.contains(sorted(words))) {
            right(words + " x;");
          } else {
            wrong(words + " x;");
          }
        }
      }
    }
    wrong("long long long x;");
    wrong("long long long int x;");
    wrong("long long double x;");
    for (String word : "const volatile restrict inline auto register typedef extern static char short int float double void signed unsigned".split(" ")) {
      String with = "void char short int float double signed unsigned".contains(word) ? word + " " + word : word + " int " + word;
      wrong(with + " x;");
    }
    for (String two : new String[] {"typedef static", "static extern", "extern typedef", "static typedef", "extern static", "typedef extern"}) {
      wrong(two + " int x;");
    }
    right("static inline auto register int x; extern auto const int y; typedef register volatile int z;");
  }

  private static String reversed(String words) {
    java.util.List<String> list = new java.util.ArrayList<>(java.util.List.of(words.split(" ")));
    java.util.Collections.reverse(list);
    return String.join(" ", list);
  }

  private static String rotated(String words) {
    java.util.List<String> list = new java.util.ArrayList<>(java.util.List.of(words.split(" ")));
    java.util.Collections.rotate(list, 1);
    return String.join(" ", list);
  }

  private static String sorted(String words) {
    String[] list = words.split(" ");
    java.util.Arrays.sort(list);
    return String.join(" ", list);
  }

  /** "A struct's members stand in order, each at the next place that its alignment divides; its size is rounded up to its alignment. A union's members stand at 0; its size is that of the greatest, rounded up." */
  private static void layoutsOfRecords() {
    String[][] kinds = {{"char", "1", "1"}, {"short", "2", "2"}, {"int", "4", "4"}, {"long long", "8", "4"}, {"double", "8", "4"}, {"char *", "4", "4"}, {"struct c3", "3", "1"}, {"struct s6", "6", "2"}, {"float", "4", "4"}};
    String head = "struct c3 { char a[3]; }; struct s6 { short a[3]; }; ";
    for (String[] x : kinds) {
      for (String[] y : kinds) {
        for (String[] z : new String[][] {kinds[0], kinds[3], kinds[1]}) {
          int[] at = new int[3];
          int end = 0;
          int most = 1;
          int greatest = 0;
          String[][] three = {x, y, z};
          for (int i = 0; i < 3; i++) {
            int size = Integer.parseInt(three[i][1]);
            int alignment = Integer.parseInt(three[i][2]);
            at[i] = (end + alignment - 1) / alignment * alignment;
            end = at[i] + size;
            most = Math.max(most, alignment);
            greatest = Math.max(greatest, size);
          }
          int whole = (end + most - 1) / most * most;
          int joined = (greatest + most - 1) / most * most;
          String members = "{ " + x[0] + " a; " + y[0] + " b; " + z[0] + " c; }";
          Bench.exits(head + "struct t " + members + "; union w " + members + " w; int main(void) { struct t *p = (void *)0; return sizeof(struct t) == " + whole + " && (int)&p->b == " + at[1] + " && (int)&p->c == " + at[2] + " && sizeof w == " + joined
              + " && (void *)&w.b == &w && sizeof(struct t [3]) == " + 3 * whole + " && sizeof(struct { char q; struct t r; }) == " + (most + whole) + "; }", 1);
        }
      }
    }
  }

  /** "the next one takes the lowest free bits of the unit of the one right before it, or, if they do not suffice or it does not follow a bit-field, those of a new unit; one of width 0 ends the unit; a member behind them stands behind their last unit. (In a union each is the lowest bits of a unit at 0.)" */
  private static void bitFields() {
    for (int width = 1; width <= 32; width++) {
      Bench b = Bench.exits("struct { unsigned a : " + width + ", b : " + (32 - width == 0 ? 1 : 32 - width) + "; } x; struct { unsigned a : " + width + ", b : " + Math.min(32, 33 - width) + "; } y; int main(void) { x.b = 1; y.b = 1; return sizeof x * 16 + sizeof y; }",
          width == 32 ? 8 * 16 + 8 : 4 * 16 + 8);
      Bench.due("b behind " + width, b.x.memory(width == 32 ? 1028 : 1024), width == 32 ? 1 : 1 << width);
      right("struct { int a : " + width + "; unsigned : " + width + "; } x; union { int a : " + width + "; } y;");
    }
    for (String bad : new String[] {"int a : 33", "int : 33", "unsigned a : 33", "int a : 0", "int a : -1", "int : -1", "int a : 4294967297ll", "char a : 1", "unsigned char a : 1", "short a : 1", "long long a : 1", "float a : 1", "int *a : 1", "struct s a : 1", "int a[2] : 1", "int a(void) : 1", "char : 0", "double : 0", "char : 3",
        "int a : 1.0", "int a : (int)1.0", "int a : &a", "int a : b"}) {
      wrong("struct s { int q; }; struct { int r; " + bad + "; } x;");
      wrong("struct s { int q; }; union { int r; " + bad + "; } x;");
    }
    right("enum e { A }; struct { enum e a : 2; long b : 3; unsigned long c : 32; signed d : 1; size_t e : 5; int : 0; unsigned : 0; const int f : 2; } x;");
    String[][] sizes = {{"int a : 1; int b : 31;", "4"}, {"int a : 2; int b : 31;", "8"}, {"int a : 1; char c; int b : 1;", "12"}, {"int a : 1; int : 0; int b : 1;", "8"}, {"int : 0; int a : 1;", "4"}, {"int a : 1; int : 0; int : 0; int b : 1;", "8"}, {"char a; int b : 1; char c;", "12"}, {"int a : 32; int : 0; char b;", "8"},
        {"int a : 1; char b; char c;", "8"}, {"char a; int : 0;", "1"}, {"char a; int : 1;", "8"}, {"int : 31; int a : 1;", "4"}, {"int : 31; int a : 2;", "8"}, {"short a; int b : 16; short c;", "12"}, {"int a : 16; struct { char c; } b; int d : 1;", "12"}, {"double a; int b : 1;", "12"}};
    for (String[] row : sizes) {
      Bench.exits("struct s { " + row[0] + " }; int main(void) { return sizeof(struct s); }", Integer.parseInt(row[1]));
    }
    String[][] unions = {{"char a; int : 0;", "1"}, {"char a; int : 1;", "4"}, {"char a; int b : 1;", "4"}, {"char a[5]; int b : 32;", "8"}, {"short a; int : 0; char b;", "2"}, {"int a : 32; int b : 32;", "4"}};
    for (String[] row : unions) {
      Bench.exits("union s { " + row[0] + " }; int main(void) { return sizeof(union s); }", Integer.parseInt(row[1]));
    }
    Bench.exits("union { unsigned a : 4, b : 8; int c; } x; int main(void) { x.c = 0x1234; return x.a + x.b; }", 4 + 0x34);
    for (String twice : new String[] {"int a; int a : 3;", "int a : 3; int a;", "int a : 3, a : 4;", "int a : 3; char b; unsigned a : 4;", "char b; int a : 32; int c, b : 2;"}) {
      wrong("struct s { " + twice + " } x;");
      wrong("union s { " + twice + " } x;");
    }
    right("struct s { int a : 3, : 3, : 3; unsigned : 3; struct { int a : 3; } b; } x;");
    wrong("struct s { int : 3; } x;");
    wrong("union s { int : 3; } x;");
    wrong("struct s { int : 0; } x;");
    wrong("struct s { } x;");
    right("struct s { int : 3; int a; } x;");
  }

  /** "Array lengths are 1 .. 262144, and no type is greater than 262144 bytes (a string that initialises nothing is not looked at)." */
  private static void lengthsAndSizes() {
    right("typedef char T[1]; typedef char U[262144]; typedef short V[131072]; typedef int W[65536]; typedef double X[32768]; typedef char Y[512][512]; typedef struct { char a[262144]; } Z;");
    for (String bad : new String[] {"char T[0]", "char T[-1]", "char T[262145]", "short T[131073]", "int T[65537]", "double T[32769]", "char T[512][513]", "char T[513][512]", "char T[262144][2]", "char T[4294967297ll]", "char T[4294967296ll]", "char T[-4294967295ll]", "char T[1.0]", "char T[\"a\"]", "char (*T)[262145]", "char (*T)[0]",
        "char T[262144][262144]", "char T[2][131073]", "char T[5][52429]", "char T[3][5][17477]", "int T[1u - 2]", "char T[2147483647]"}) {
      wrong("typedef " + bad + ";");
      wrong("extern " + bad + ";");
      wrong("int x = sizeof(" + bad.replace("T", "") + ");");
      wrong("int f(" + bad.replace("char T[", "char T[2][") + ");");
    }
    right("extern char *a[65536]; int f(char a[262144]); extern struct { char a[131072], b[131072]; } x; union { char a[262144]; int b[65536]; } *y; typedef struct { char a[262143]; char b; } T;");
    wrong("struct { char a[262144], b; } *x;");
    wrong("struct { char a[262141]; int b; } *x;");
    right("struct { char a[262140]; int b; } *x;");
    wrong("struct { int b; char a[262141]; } *x;");
    wrong("struct { int b; char a[262140]; struct { int q; } c; } *x;");
    right("struct { int b; char a[262140]; } *x;");
    wrong("union { char a[262144]; struct { char b[262144], c; } d; } *x;");
    wrong("int f(int a[65537]);");
    wrong("struct { int a[65536]; int b : 1; } *x;");
    right("struct { int a[65535]; int b : 1; } *x;");
    wrong("int f(char a[262145]);");
    right("extern char a[4][65536], b[5][52428], (*c)[3][5][17476];");
    Bench.exits("char a[2 > 1], b['a' - 96], c[sizeof(int)], d[(char)257], e[1 ? 2 : 0]; int main(void) { return sizeof a + sizeof b + sizeof c + sizeof d + sizeof e; }", 1 + 1 + 4 + 1 + 2);
  }

  private static void hasWorth(String expression, long worth) {
    String told = worth < 0 ? "(-" + -worth + ")" : "" + worth;
    Bench.exits("enum { A = (" + expression + ") == " + told + " }; char a[(" + expression + ") == " + told + "]; struct { int b : (" + expression + ") == " + told + "; } s; int main(void) { switch (1) { case (" + expression + ") == " + told + ": return A + sizeof a + 2; } }", 4);
  }

  /** "of integer constants, enumerators, sizeof, casts to integer types, and the operators unary + - ~ !, binary ones, && || ?: on integers, worked out as in 8" */
  private static void constantExpressions() {
    hasWorth("1 + 2 * 3 - 8 / 2 % 3", 6);
    hasWorth("~5 + -3 + +4 + !0 + !7", -6 - 3 + 4 + 1);
    hasWorth("1 << 4 | 3 & 6 ^ 1", 19);
    hasWorth("(1 < 2) + (2 <= 2) + (3 > 4) + (4 >= 4) + (5 == 5) + (6 != 6)", 4);
    hasWorth("2147483647 + 1 < 0", 1);
    hasWorth("4294967295u + 1", 0);
    hasWorth("-1 < 1u", 0);
    hasWorth("-1 < 1ll", 1);
    hasWorth("(-2147483647 - 1) / -1 == -2147483647 - 1", 1);
    hasWorth("(-2147483647 - 1) % -1", 0);
    hasWorth("-9223372036854775807 - 1 < 0", 1);
    hasWorth("-7 / 2 * 10 + -7 % 2", -31);
    hasWorth("1u - 2 > 0", 1);
    hasWorth("18446744073709551615u / 2 == 9223372036854775807", 1);
    hasWorth("-1 >> 31", -1);
    hasWorth("-1u >> 31", 1);
    hasWorth("1 << 31 < 0", 1);
    hasWorth("1ll << 63 < 0", 1);
    hasWorth("1 << 31u < 0", 1);
    hasWorth("sizeof(int) + sizeof \"abc\" + sizeof(char [5]) + sizeof 1.5", 4 + 4 + 5 + 8);
    hasWorth("sizeof(1 / 0)", 4);
    hasWorth("sizeof(int) - 5 > 0", 1);
    hasWorth("(char)200", -56);
    hasWorth("(unsigned char)-1", 255);
    hasWorth("(short)40000", -25536);
    hasWorth("(unsigned)-1 == 4294967295", 1);
    hasWorth("(long long)-1 == -1", 1);
    hasWorth("(int)4294967296", 0);
    hasWorth("(char)'\\377'", -1);
    hasWorth("1 && 2", 1);
    hasWorth("1 || 1 / 0", 1);
    hasWorth("0 && 1 / 0", 0);
    hasWorth("0 && 1 << 32", 0);
    hasWorth("1 ? 5 : 1 / 0", 5);
    hasWorth("0 ? 1 % 0 : 6", 6);
    hasWorth("0 ? 1 << -1 : 1 ? 7 : 1 / 0", 7);
    hasWorth("(1 ? -1 : 0u) > 0", 1);
    hasWorth("sizeof(1 ? 1 : 1ll)", 8);
    hasWorth("!(1 && 0) && (2 || 0)", 1);
    Bench.exits("enum { A = 3, B = A * 2 }; char a[B + A]; int main(void) { enum { C = sizeof a + B }; switch (15) { case C: return C; } }", 15);
  }

  /** "(a division by 0 or a bad shift that is worked out is a fault)"; "Floating constants are never part of a constant expression" */
  private static void noConstants() {
    // What is not worked out must have the form of one all the same.
    for (String part : new String[] {"x", "-x", "+x", "~x", "!x", "(int)x", "(char)x", "x + 1", "1 + x", "x < 1", "1 == x", "x << 1", "1 << x", "(x && 1)", "(0 && x)", "(1 || x)", "(x || 1)", "(x ? 1 : 2)", "(1 ? x : 2)", "(0 ? x : 2)", "(1 ? 1 : x)", "f()", "(1, 2)", "(x = 1)", "x++", "a[0]", "*a", "(int)1.5", "1.5", "!1.5", "1.5 > 1",
        "(int)a", "(int)\"a\"", "&x == 0", "!a", "-(x)", "1 + 2 * x", "(int)(char *)0", "(char *)0 == 0", "s.b"}) {
      for (String whole : new String[] {"1 || @", "0 && @", "1 ? 1 : @", "0 ? @ : 1", "(1 || @) + 1", "1 ? 2 || @ : 1"}) {
        wrong("int x, a[2], f(void); struct { int b; } s; enum { E = " + whole.replace("@", part) + " };");
        wrong("int x, a[2], f(void); struct { int b; } s; extern int y[(" + whole.replace("@", part) + ") + 1];");
      }
    }
    for (String bad : new String[] {"1 / 0", "1 % 0", "1 << 32", "1 << -1", "1 >> 32", "1ll << 64", "1ll >> -1", "0 * (1 / 0)", "(1 / 0, 1)", "1, 2", "1 / (1 - 1)", "1 && 1 / 0", "0 || 1 / 0", "0 ? 1 : 1 / 0", "1 ? 1 / 0 : 1", "1 / 0 ? 1 : 2", "1 / 0 && 0", "!(1 / 0)", "-(1 / 0)", "(char)(1 / 0)", "1.0", "(int)1.5", "1 + 1.0",
        "1 ? 1 : 1.0", "0 ? 1.0 : 1", "0 && 1.0", "1 || 1.0", "!1.0", "1.0 < 2", "x", "0 && x", "1 || x", "1 ? 1 : x", "0 * x", "x - x", "sizeof x, 1", "f()", "1 || f()", "(x, 1)", "x = 1", "&x", "*&x", "(int)&x", "(int)\"a\"", "\"a\"[0]", "(int)(void *)0", "(int)(char *)4", "(void *)0", "!(void *)0", "x++", "(long long)1.0", "c", "(1 ? (void *)0 : 0)",
        "!\"a\"", "(void)1", "s", "1 << 4294967296ll", "1 << 18446744073709551615u", "(void *)0 ? 1 : 2", "0 ? x : 1", "1 ? x : 1", "x ? 1 : 1", "1 / 0 + 1", "1 / 0 * 0", "0 * 5 % 0", "1 + 1 / 0", "x + 1", "1 + x", "x && 0", "x || 1", "(void *)0 && 1", "1 && (void *)0", "(void *)0 == 0",
        "1.5 == 1.5", "(1 << 32) * 0", "-x", "~x", "!x", "+x", "(char)x", "(1 ? 1 / 0 : 1) + 1", "1 / 0 || 1"}) {
      String head = "int x; const int c = 1; struct s { int q; } s; int f(void) { return 1; } int main(void) {\n";
      // In brackets, as a comma would end the place.
      for (String place : new String[] {"char a[@];", "enum { A = @ };", "struct { int b : @; } t;", "int a[9] = { [@] = 1 };", "switch (1) { case @: ; }", "sizeof(char [@]);"}) {
        Bench b = new Bench().source(head + place.replace("@", "(" + bad + ")") + " return 0; }");
        Bench.due(place + " " + bad, b.x.compile(), 4);
        Bench.due("line", b.x.faultLine(), 2);
      }
    }
    Bench.faults("int a[1 << 31 << 0];\nint main(void) { return 0; }", 4, 1);
  }

  /** "An enumerator without a value is one more than that before it, wrapping, the first 0; its value is cast to int." */
  private static void enumerators() {
    Bench.exits("enum { A, B, C = 5, D, E = 2147483647, F, G = -1, H, I = 4294967296ll, J, K = 4294967295u, L, M = 8589934591ll }; int main(void) { return A == 0 && B == 1 && D == 6 && F == -2147483647 - 1 && H == 0 && I == 0 && J == 1 && K == -1 && L == 0 && M == -1 && sizeof I == 4; }", 1);
    Bench.exits("enum e { A = 3, B = A, C } x = C; enum e y; int main(void) { y = 1000; return x + (y == 1000) + sizeof(enum e); }", 9);
    Bench.exits("enum { A = sizeof(enum { B = 3 }), C = B }; int main(void) { return A + B + C; }", 10);
    wrong("enum { A, A };");
    wrong("enum { A }; int A;");
    wrong("int A; enum { A };");
    wrong("enum { A = B, B };");
    wrong("enum { A = A };");
    Bench.exits("enum { A = 3 }; int main(void) { enum { A = A + 1 }; return A; }", 4);
    wrong("enum { A = 1 } x; enum { B = x };");
  }

  /** "Tags, like identifiers, belong to the block in which they are declared; struct x or union x alone with ; (no other word) declares a new one there, otherwise the innermost one that holds, or a new one." */
  private static void tagsInBlocks() {
    Bench.exits("struct s { char a; }; int main(void) { struct s x; { struct s { int a; }; struct s y; return sizeof x * 16 + sizeof y; } }", 20);
    Bench.exits("struct s { char a; }; int main(void) { struct s; struct t { struct s *p; }; struct s { int a; }; struct t x; return sizeof *x.p; }", 4);
    Bench.exits("struct s { char a; }; int main(void) { struct t { struct s *p; }; struct s { int a; }; struct t x; return sizeof *x.p; }", 1);
    Bench.exits("struct s { char a; }; int main(void) { const struct s; struct t { struct s *p; }; struct t x; return sizeof *x.p; }", 1);
    Bench.exits("struct s { char a; }; int main(void) { struct s const; return sizeof(struct s); }", 1);
    Bench.exits("struct s { char a; }; int main(void) { union s { int a; }; return sizeof(union s); }", 4);
    Bench.exits("struct s { char a; }; int main(void) { union s; union s { int a; } x; return sizeof x; }", 4);
    Bench.exits("enum e { A = 3 }; int main(void) { enum e { B = 4 }; enum e x = B; return x + A; }", 7);
    Bench.exits("struct s { struct s *n; int v; } x = { &x, 5 }; int main(void) { return x.n->n->v; }", 5);
    Bench.exits("struct s; struct s *p; struct s { int v; } x = { 5 }; int main(void) { p = &x; return p->v; }", 5);
    Bench.exits("struct t { struct s *p; } y; struct s { int v; } x = { 5 }; int main(void) { y.p = &x; return y.p->v; }", 5);
    Bench.exits("int f(struct q *p) { return p == 0; } int main(void) { return f(0); }", 1);
    Bench.exits("struct q; int f(struct q *p); struct q { int a; } x = { 3 }; int f(struct q *p) { return p->a; } int main(void) { return f(&x); }", 3);
    wrong("struct s { int a; }; struct s { int a; };");
    wrong("struct s { int a; }; union s { int a; };");
    wrong("struct s { int a; }; union s *p;");
    wrong("struct s; union s;");
    wrong("struct s; enum s { A };");
    wrong("enum s { A }; struct s { int a; };");
    wrong("enum s { A }; struct s *p;");
    wrong("enum s { A }; enum s { B };");
    wrong("enum s *p;");
    wrong("enum s;");
    right("enum s { A }; enum s;");
    right("struct s; struct s; struct s { int a; }; struct s;");
    Bench.faults("int f(struct q *p); struct q { int a; }; int g(struct q *p) {\nreturn f(p); }" + MAIN, 4, 2);
    Bench.faults("int f(struct q { int a; } *p) { return p->a; }\nint main(void) { return sizeof(struct q); }", 4, 2);
    Bench.exits("int f(struct q { int a; } *p) { struct q x = { 4 }; p = &x; return p->a; } int main(void) { return f(0); }", 4);
    Bench.faults("int f(struct q { int a; } *p) {\nstruct q { int a; } x; return 0; }" + MAIN, 4, 2);
    Bench.exits("struct s { struct t { int a; } b; }; struct t x = { 3 }; int main(void) { return x.a; }", 3);
    Bench.exits("int main(void) { for (struct k { int a; } x = { 3 }; ; ) { struct k y = { 4 }; return x.a + y.a; } }", 7);
  }

  /** "An identifier is declared once in a block, except: file-scope objects and functions of the same type (an array without length takes the length of another), of which at most one has an initialiser or body" */
  private static void declaredAgain() {
    for (String good : new String[] {"int x; int x;", "int x = 1; int x;", "int x; int x = 1; extern int x;", "extern int x; static int x;", "int x[]; int x[3];", "int x[3]; int x[];", "int x[]; int x[]; int x[2];", "int x[3]; int x[3];", "int f(void); int f(void);", "int f(void); int f(void) { return 0; } int f(void);", "int f(int a); int f(int b);",
        "int f(int a[3]); int f(int *a);", "int f(int g(void)); int f(int (*g)(void));", "int f(const int a); int f(int a);", "extern int x[]; int x[] = { 1, 2 };", "int x[] = { 1, 2 }; int x[2];", "int x[3]; int x[] = { 1, 2 };", "const int x; int x;", "struct s *x; struct s { int a; }; struct s *x;", "unsigned long x; unsigned x;", "long x; int x;", "char x; signed char x;",
        "enum e { A } x; int x;", "int x, x;", "int f(), f(void);", "typedef int T; T x; int x;", "extern int x; int x = 2; static int x;"}) {
      right(good);
    }
    for (String bad : new String[] {"int x; char x;", "int x = 1; int x = 1;", "int x[2]; int x[3];", "int x[] = { 1, 2 }; int x[3];", "int x[3]; int x[] = { 1, 2, 3, 4 };", "int x; int x[2];", "int x; int *x;", "int f(void); char f(void);", "int f(void); int f(int a);", "int f(int a); int f(int a, ...);", "int f(void) { return 0; } int f(void) { return 0; }",
        "int f(void); int f;", "int f; int f(void);", "typedef int x; int x;", "int x; typedef int x;", "typedef int x; typedef int x;", "enum { x }; int x;", "int x; enum { x };", "struct { int a; } x; struct { int a; } x;", "struct s { int a; } x; struct t { int a; } x;", "int x[]; char x[2];", "unsigned x; int x;", "long long x; int x;",
        "int f(int a); int f(unsigned a);", "int (*x)[]; int (*x)[3];", "int f(int *a); int f(char *a);", "float x; double x;", "char x; unsigned char x;"}) {
      wrong(bad);
    }
    for (String bad : new String[] {"int x; int x;", "int x; char x;", "static int x; int x;", "extern int x; int x;", "int x; extern int x;", "extern int x; extern int x;", "int g(void); int g(void);", "extern int g(void); int g(void);", "int x; typedef int x;", "typedef int x; int x;", "enum { x }; int x;", "int x; enum { x };", "int x, x;"}) {
      Bench.faults("extern int x; int g(void);\nint main(void) {\n" + bad + " return 0; }", 4, 3);
    }
    Bench.faults("int f(int a) {\nint a; return 0; }" + MAIN, 4, 2);
    Bench.faults("int f(int a) {\nextern int a; return 0; }" + MAIN, 4, 2);
    Bench.faults("int f(int a) {\nenum { a }; return 0; }" + MAIN, 4, 2);
    Bench.exits("int f(int a) { { int a = 4; return a; } } int main(void) { int f1 = 0; { int f1 = 3; { char f1 = 2; return f(1) + f1; } } }", 6);
    wrong("int f(int a, int a);");
    Bench.exits("int main(void) { int i = 1; for (int i = 5; i < 6; i++) { int i = 7; return i; } }", 7);
    Bench.exits("int x[]; int y = sizeof(int); int x[3]; int main(void) { return sizeof x; }", 12);
    Bench.exits("int x[3]; int main(void) { extern int x[]; return sizeof x; }", 12);
  }

  /** "extern in blocks is the file-scope one"; "one that the unit does not have yet is declared for the unit there (its place in the order is here; it is known outside only from a declaration of its own on)" */
  private static void declaredInBlocks() {
    Bench.exits("int x = 3; int main(void) { int x = 4; { extern int x; return x; } }", 3);
    Bench.exits("int main(void) { extern int x; { int f(void); return x + f(); } } int x = 3; int f(void) { return 4; }", 7);
    Bench.faults("int main(void) { extern int x;\nreturn x; } int f(void) {\nreturn x; } int x;", 4, 3);
    Bench.faults("int main(void) { { extern int x; x; }\nreturn x; } int x;", 4, 2);
    Bench.faults("int main(void) { { int f(void); f(); }\nreturn f(); } int f(void) { return 0; }", 4, 2);
    Bench.faults("int main(void) { extern int x; return 0; }\nchar x;", 4, 2);
    Bench.faults("char x; int main(void) {\nextern int x; return 0; }", 4, 2);
    Bench.faults("int f(void); int main(void) {\nint f(int a); return 0; }", 4, 2);
    Bench.faults("int f(void); int main(void) {\nextern int f; return 0; }", 4, 2);
    Bench.exits("int main(void) { extern int x[]; x[1] = 5; return x[1]; } int x[2];", 5);
    Bench.exits("int main(void) { { extern int x[3]; } extern int x[]; return sizeof x; } int x[3];", 12);
    Bench.exits("int main(void) { extern int x = 5; return x; }", 5);
    Bench.faults("int x = 1; int main(void) {\nextern int x = 5; return x; }", 4, 2);
    Bench.exits("int main(void) { static int f2 = 3; int f(void), g(void); return f() + g() + f2; } int g(void) { return 2; } int f(void) { return 1; }", 6);
    Bench b = Bench.exits("int f(void) { extern int z; static int y = 7; return 0; } int a = 8, z = 9;" + MAIN, 0);
    Bench.due("z has its place where it was declared first", b.x.memory(1024), 9);
    Bench.due("then y", b.x.memory(1028), 7);
    Bench.exits("int main(void) { int f(void); int g(void); return (int)g - (int)f; } int g(void) { return 0; } int f(void) { return 0; }", 16);
    Bench.faults("int main(void) { static int f(void); return 0; }\nint f; ", 4, 2);
  }

  /** What a block declares with extern is declared for the unit: the unit has that identifier as nothing else. */
  private static void declaredOtherwise() {
    for (String other : new String[] {"typedef int x;", "enum { x };", "typedef int y, x;", "enum { z, x = 3 };", "struct { enum { x } e; } s;", "typedef int x(void);", "typedef int x[2];"}) {
      for (String block : new String[] {"void f(void) { extern int x; }", "void f(void) { int x(void); }", "void f(void) { { extern char x[]; } }", "void f(void) { int x; { extern int x; } }", "void f(int x) { { int x(void); } }", "void f(void) { typedef int x; { extern int x; } }"}) {
        wrong(other + " " + block);
        wrong(block + " " + other);
      }
      right("void f(void) { extern int x; } void g(void) { " + other + " { " + other + " } }");
      right(other + " void f(void) { int x; { static int x; } } void g(int x);");
    }
    right("void f(void) { extern int x; } void g(enum { x } a); void h(int x);");
    right("void f(void) { extern int x; } struct x { int x; } s; enum y { z }; void g(void) { x: ; }");
    // A name of the library is no identifier of the unit yet.
    right("void f(void) { extern int puts; } void g(void) { puts(\"\"); }");
    wrong("void f(void) { extern int puts; } typedef int puts;");
    wrong("void f(void) { extern int puts; } enum { puts };");
    right("typedef int puts; void f(void) { puts x; }");
    // An initialiser there is the one that the object may have.
    Bench.exits("int main(void) { extern int x = 5; return x; } int x;", 5);
    Bench.exits("int x; int main(void) { extern int x = 5; return x; } extern int x;", 5);
    Bench.faults("int f(void) { extern int x = 5; return x; }\nint x = 5;" + MAIN, 4, 2);
    Bench.faults("int f(void) { extern int x = 5; return x; } int g(void) {\nextern int x = 5; return x; }" + MAIN, 4, 2);
    Bench.exits("int main(void) { extern int x[] = { 1, 2, 3 }; return sizeof x; }", 12);
    Bench.faults("struct s; int f(void) {\nextern struct s x = { 1 }; return 0; } struct s { int a; };" + MAIN, 4, 2);
    Bench.exits("int f(void) { extern int x = 5; int y = 3, z = y; return x + z; } int main(void) { int a = f(), b = a; return b; }", 8);
  }

  /** "USED is an identifier that stands in an expression, also under sizeof; extern objects neither defined nor used have no place." */
  private static void usedAndDefined() {
    right("extern int x; int f(void); extern struct s y; extern int z[];");
    for (String use : new String[] {"x", "sizeof x", "&x", "sizeof(x + 1)", "0 && x", "f()", "sizeof f()", "f", "&f", "sizeof &f", "sizeof &x"}) {
      Bench.faults("extern int x; int f(void); int main(void) { " + use + ";\nreturn 0; }\n\nint y;\n", 4, 4);
      Bench.exits("extern int x; int f(void); int main(void) { " + use + ";\nreturn 0; }\n\nint y; int x; int f(void) { return 0; }", 0);
    }
    Bench.faults("extern int x; char a[sizeof x];\nint main(void) { return 0; }", 4, 2);
    Bench.faults("extern int x; int y = sizeof x;\nint main(void) { return 0; }", 4, 2);
    Bench.exits("extern int x; int main(void) { { int x = 3; return x; } }", 3);
    Bench.exits("extern int x; struct { int x; } s = { 4 }; int main(void) { x: return s.x; }", 4);
    Bench.faults("static int f(void); int main(void) { return f(); }", 4, 1);
  }

  /** "What is incomplete at file scope may be completed later in the unit (else fault at its last token)." */
  private static void completedLater() {
    Bench.exits("struct s x; int a[]; struct s { int q; }; int a[2]; int main(void) { return sizeof x + sizeof a; }", 12);
    Bench.exits("extern struct s x; int f(void) { return &x == 0; } struct s { int q; } x; int main(void) { return f(); }", 0);
    Bench.faults("struct s x;\nint main(void) { return 0; }\n\nint y;", 4, 4);
    Bench.faults("int a[];\nint main(void) { return 0; }\n\nint y;", 4, 4);
    Bench.faults("static int a[];\nint main(void) { return 0; }", 4, 2);
    Bench.faults("struct s x;\nint main(void) { struct s { int q; } y; return 0; }", 4, 2);
    right("extern struct s x; extern int a[];");
    Bench.faults("extern int a[]; int main(void) { return a[0]; }\n\nint y;", 4, 3);
    Bench.exits("extern int a[]; int main(void) { return a[1]; } int a[] = { 1, 2 };", 2);
    Bench.faults("struct s x[2];\nstruct s { int a; };" + MAIN, 4, 1);
    Bench.faults("struct s x = { 1 };\nstruct s { int a; };" + MAIN, 4, 1);
    Bench.faults("struct s x; int y = sizeof x;\nstruct s { int a; };" + MAIN, 4, 1);
  }

  /** "An object that is defined, a parameter of a definition, a member, an array's element, and what sizeof, pointer arithmetic, [ ] , . and * look at, and what is read as a value, is complete there" */
  private static void completeThere() {
    faulty("struct inc x", "static struct inc x", "int x[]", "struct inc x[2]", "struct { struct inc q; } x", "sizeof(struct inc)", "sizeof inc", "sizeof *ip", "sizeof(void)", "sizeof *vp", "sizeof f", "sizeof v", "sizeof(int [])", "sizeof(int (void))", "ip + 1", "ip - 1", "1 + ip", "ip - ip", "ip[0]", "0[ip]", "*ip", "ip->q", "inc.q", "inc",
        "inc, 1", "vp + 1", "vp - 1", "vp - vp", "vp[0]", "*vp", "fp + 1", "fp - 1", "fp - fp", "fp[0]", "ip++", "--ip", "ip += 1", "vp++", "fp++", "vp -= 1", "&*ip", "&*vp", "&ip[0]", "inc = inc", "1 ? inc : inc", "(void)inc", "f + 1", "*v + 1", "&f + 1", "v[0]");
    fits("extern struct inc y", "extern int x[]", "struct inc *x", "ip == ip", "!ip", "ip && 1", "(int *)ip", "sizeof ip", "vp = ip", "ip = 0", "1 ? ip : 0", "ip < ip", "*fp", "**fp", "sizeof fp", "int (*x)[] = 0", "struct inc *x[2]; x[1]",
        "struct inc *h(struct inc)", "struct inc h(void)");
    Bench.faults("struct i; int f(struct i x)\n{ return 0; }" + MAIN, 4, 1);
    Bench.faults("struct i; struct i f(void)\n{ }" + MAIN, 4, 1);
    right("struct i; struct i f(struct i x); typedef struct i T; typedef struct i U(void); struct i *p, *q[3], (*r)(struct i);");
    Bench.exits("struct i; struct i f(int a); struct i { int x; }; struct i f(int a) { struct i r = { a }; return r; } int main(void) { return f(5).x; }", 5);
    Bench.exits("extern struct i x; struct i *p; int f(void) { p = &x; return sizeof &x; } struct i { int a; } x; int main(void) { return f() + (p == &x); }", 5);
    Bench.exits("extern int x[]; int f(void) { &x; *x = 2; return x[1] + *(x + 1); } int x[2] = { 1, 3 }; int main(void) { return f() + x[0]; }", 8);
    // A pointer to an array without length may be had, but not looked at.
    faulty("int (*x)[]; *x", "int (*x)[]; x + 1", "int (*x)[]; sizeof *x", "int (*x)[]; x[0]");
    fits("int (*x)[]; x = 0; !x");
  }

  /** "no object is of type void, not even with extern (a parameter of void may be declared, not defined) (void * may be cast and assigned only)" */
  private static void voids() {
    wrong("void x;");
    wrong("extern void x;");
    wrong("static void x;");
    wrong("void x[2];");
    wrong("struct { void x; } y;");
    wrong("typedef void V; V x;");
    wrong("typedef void V; extern V x;");
    right("int f(void x); int g(int a, void); typedef void V; int h(V), k(V x); void *p, **q; typedef void T;");
    Bench.faults("int f(void x)\n{ return 0; }" + MAIN, 4, 1);
    Bench.faults("int f(int a, void)\n{ return 0; }" + MAIN, 4, 1);
    Bench.faults("typedef void V; int f(V)\n{ return 0; }" + MAIN, 4, 1);
    faulty("void x", "extern void x", "static void x", "int x = v()", "v() + 1", "v() ? 1 : 2", "-v()", "!v()", "v() == v()", "f(v())", "return v()", "if (v()) ;", "(int)v()", "v() = 1", "&v()", "sizeof v()", "sizeof(void)", "v() && 1", "1 || v()", "1 ? v() : 1", "1 ? 1 : v()", "v()[0]", "v()()", "switch (v()) ;", "(void)1 + 1");
    fits("v()", "(void)v()", "v(), 1", "1, v()", "1 ? v() : v()", "1 ? (void)1 : v()", "(void)(1, 2)", "(void)s", "(void)a", "(void)f", "(void)0, v()", "for (v(); ; v()) break", "vp == vp", "vp == p", "vp < cp", "vp != 0", "!vp", "vp ? 1 : 0", "vp = p", "p = vp", "vp = 0", "(int *)vp", "(int)vp", "vp = fp", "fp = vp", "vp = &vp", "1 ? vp : p", "vp && 1");
  }

  /** "A function answers no array and no function; there are no arrays of functions or voids." */
  private static void answersOfFunctions() {
    for (String bad : new String[] {"int f(void)[3]", "int f(void)(void)", "int (f(void))[2]", "int a[2](void)", "int (a[2])(void)", "void a[2]", "typedef int A[2]; A f(void)", "typedef int F(void); F f(void)", "typedef int F(void); F a[2]", "int (*f)(void)[2]", "int (*f)(void)(void)", "int (*(*f)(void))[2](void)", "int f(int g(void)[2])"}) {
      wrong(bad + ";");
    }
    right("int (*f(void))[3]; int (*g(void))(void); int (*a[2])(void); void *b[2]; typedef int A[2], F(void); A *h(void); F *k(void), *c[2], m, n; int (*(*o(void))[2])(void); int p(int x[3], F y);");
  }

  /** "Two types are THE SAME by their structure; structs, unions and enums by their declaration" */
  private static void sameTypes() {
    fits("int *x = &i", "int (*x)[3] = &a", "int (*x)(int) = f", "unsigned long *x; unsigned *y = x", "long *x = p", "signed char *x = cp", "const int *x = p", "int *const x = p", "enum e *x = p", "enum e *x; enum { Q } *y = x", "struct s *x = &s", "int (*x)(const int) = f", "int (*x)(int y[3]); int (*y)(int *) = x", "int (**x)(int) = &fp", "typedef int I; I *x = p",
        "size_t *x; unsigned *y = x", "va_list x = cp", "int (*x)(int (*)(void)); int (*y)(int (void)) = x", "long (*x)(int) = f");
    faulty("char *x = p", "unsigned *x = p", "int *x = cp", "int (*x)[2] = &a", "int (*x)[] = &a", "int **x = &a", "int (*x)(char) = f", "int (*x)(void) = f", "int (*x)(int, int) = f", "int (*x)(int, ...) = f", "void (*x)(int) = f", "unsigned (*x)(int) = f", "unsigned char *x = cp", "double *x = &fl", "struct { int m, n[2]; unsigned b : 3; } *x = &s", "union u *x = &s",
        "int *x = &p", "int *x = sp", "long long *x = p", "short *x = p", "void **x = &p", "int (*x)(void *) = f", "struct t { int a; } *x; struct t2 { int a; } *y = x", "{ struct s { int m; } *x = &s; }", "int *x = &d", "p = &a", "p == cp", "p < &d", "sp == up", "1 ? p : cp", "p - cp", "sp - up", "f(p)", "fp = v");
  }

  /** "a pointer and a constant expression that is 0 (a cast of such to void * counts as one: a NULL)"; "where a NULL is looked for, what would be a fault there is simply none" */
  private static void nullPointers() {
    for (String zero : new String[] {"0", "0u", "0ll", "'\\0'", "1 - 1", "E", "Z", "(char)0", "(char)256", "sizeof(int) - 4", "0 ? 1 : 0", "0 && 1", "!1", "~-1", "(void *)0", "(void *)(1 - 1)", "(void *)E", "(0)", "((void *)0)", "0 * 5", "1 ? 0 : 1 / 0", "0x0", "00", "(unsigned long long)0", "NULL"}) {
      fits("p = " + (zero.contains("?") || zero.contains("&&") ? "(" + zero + ")" : zero), "fp = (" + zero + ")", "sp = (" + zero + ")", "p == (" + zero + ")", "(" + zero + ") != p", "p < (" + zero + ")", "1 ? p : (" + zero + ")", "*(1 ? (" + zero + ") : p) = 1", "vp = (" + zero + ")", "int *x = (" + zero + ")", "free((" + zero + "))", "int *x[2] = { (" + zero + ") }",
          "fp == (" + zero + ")");
    }
    for (String bad : new String[] {"1", "i", "i - i", "0.0", "(int)0.0", "1 / 0", "0 * (1 / 0)", "0 / 0", "(0, 0)", "ci", "d", "s", "0 && i", "0 * i", "'a'", "1 ? 0 : i", "ONE", "(1 ? 0 : 0.0)", "-1", "1 << 32", "0 << 32"}) {
      faulty("p = " + bad, "fp = (" + bad + ")", "p == (" + bad + ")", "(" + bad + ") == p", "1 ? p : (" + bad + ")", "1 ? (" + bad + ") : p", "int *x = (" + bad + ")", "vp = (" + bad + ")");
    }
    // Other casts of 0 are pointers of their type, and no NULL.
    faulty("p = (char *)0", "p == (char *)0", "1 ? p : (char *)0", "fp = (int *)0", "*(1 ? p : (void *)p)", "*(1 ? (void *)(void *)0 : p)", "*(1 ? p : (void *)(int *)0)", "*(1 ? p : (void *)1)", "*(1 ? (void *)1 : p)", "*(1 ? p : (void *)ONE)", "*(1 ? p : (void *)i)", "fp(1), (1 ? fp : (void *)1)(1)");
    fits("p = (int *)0", "p = (void *)(char *)0", "p = (void *)(void *)0", "*(1 ? p : (void *)0) = 1", "p == (void *)p", "fp = (void *)p");
    faulty("i = (void *)0", "i == (void *)0", "d = (void *)0", "i == p", "i < p", "(void *)0 + 0", "return p", "i = p", "d == p", "f((void *)0)");
    fits("0 == 0", "vp == (void *)0", "(void *)0 == (void *)0", "(void *)0 == 0", "1 ? (void *)0 : 0", "1 ? 0 : (void *)0", "1 ? (void *)0 : (void *)0");
  }

  /** "* and / and unary + -: arithmetic; % & | ^ << >> ~: integers; + : arithmetic, or a pointer and an integer in either order; -: arithmetic, pointer and integer, two pointers of the same type; ! && || and conditions of ?: if while do for: scalars" */
  private static void operandsOfOperators() {
    String[] operands = {"i", "c", "d", "fl", "p", "vp", "s", "u", "a", "f", "E", "1ll", "cp", "sp", "1.5"};
    for (String x : operands) {
      boolean real = isOneOf(x, "d fl 1.5");
      boolean record = isOneOf(x, "s u");
      boolean pointer = isOneOf(x, "p vp a f cp sp");
      boolean integer = !real && !record && !pointer;
      for (String sign : new String[] {"+", "-"}) {
        check(integer || real, sign + x);
      }
      check(integer, "~" + x);
      check(!record, "!" + x, x + " && 1", "1 || " + x, x + " ? 1 : 2", "if (" + x + ") ;", "while (" + x + ") ;", "do ; while (" + x + ")", "for (; " + x + "; ) ;");
      for (String y : operands) {
        boolean realY = isOneOf(y, "d fl 1.5");
        boolean recordY = isOneOf(y, "s u");
        boolean pointerY = isOneOf(y, "p vp a f cp sp");
        boolean integerY = !realY && !recordY && !pointerY;
        boolean both = (integer || real) && (integerY || realY);
        boolean goes = !x.equals("vp") && !x.equals("f");
        boolean goesY = !y.equals("vp") && !y.equals("f");
        check(both, x + " * " + y, x + " / " + y);
        for (String sign : "% & | ^ << >>".split(" ")) {
          check(integer && integerY, x + " " + sign + " " + y);
        }
        check(both || pointer && goes && integerY || integer && pointerY && goesY, x + " + " + y);
        check(both || pointer && goes && integerY || pointer && pointerY && goes && goesY && kindOf(x).equals(kindOf(y)), x + " - " + y);
        check(pointer && goes && integerY || integer && pointerY && goesY, x + "[" + y + "]");
        boolean zero = x.equals("E") && pointerY || y.equals("E") && pointer;
        boolean compared = both || zero || pointer && pointerY && (kindOf(x).equals(kindOf(y)) || x.equals("vp") || y.equals("vp"));
        for (String sign : "< > <= >= == !=".split(" ")) {
          check(compared, x + " " + sign + " " + y);
        }
        check(compared || record && x.equals(y), "1 ? " + x + " : " + y);
      }
    }
    faulty("v() * 1", "*i", "*d", "*s", "i->m", "d->m", "s->m", "p->m", "vp->m", "sp.m", "p.m", "i.m", "a.m", "f.m", "s.none", "sp->none", "u.m", "ip->m", "1->m", "f->m", "fp->m", "g.m", "a->m", "(&s).m", "(*sp)->m", "s.n.m");
    fits("sp->m", "s.m", "(*sp).m", "(&s)->m", "g().m", "(s).n[1]", "sp[0].m", "u.a", "(&u)->a", "(1 ? s : s).m", "(s = s).m", "(1, s).m", "*a", "*\"a\"", "*f", "*fp", "***f", "*&i", "*cp", "**&p");
  }

  private static boolean isOneOf(String word, String list) {
    return java.util.List.of(list.split(" ")).contains(word);
  }

  private static String kindOf(String operand) {
    return operand.equals("a") ? "p" : operand;
  }

  private static void check(boolean good, String... expressions) {
    if (good) {
      fits(expressions);
    } else {
      faulty(expressions);
    }
  }

  /** "++ -- and compound assignment: as the operator, with an LVALUE on the left"; "int += pointer is a fault" */
  private static void incrementsAndCompounds() {
    for (String sign : new String[] {"++", "--"}) {
      for (String good : new String[] {"i", "c", "d", "fl", "p", "cp", "sp", "s.m", "s.b", "sp->m", "a[1]", "*p", "*&i", "(i)", "u.a", "g().n[0]", "*\"a\"", "p[1]"}) {
        fits("(" + good + ")" + sign, sign + good);
      }
      for (String bad : new String[] {"1", "a", "f", "s", "u", "vp", "fp", "ip", "E", "(i, i)", "(1 ? i : i)", "i++", "(i = 1)", "g().m", "f(1)", "\"a\"", "&i", "v()", "s.n", "(int)i", "-i"}) {
        faulty("(" + bad + ")" + sign, sign + "(" + bad + ")");
      }
    }
    for (String sign : "*= /= %= += -= <<= >>= &= ^= |=".split(" ")) {
      boolean integers = !sign.equals("*=") && !sign.equals("/=") && !sign.equals("+=") && !sign.equals("-=");
      boolean sums = sign.equals("+=") || sign.equals("-=");
      fits("i " + sign + " 1", "c " + sign + " 1ll", "s.b " + sign + " c", "a[1] " + sign + " i");
      check(!integers, "d " + sign + " 1", "i " + sign + " 1.5", "fl " + sign + " d", "c " + sign + " fl", "s.b " + sign + " d");
      check(sums, "p " + sign + " 1", "cp " + sign + " c", "sp " + sign + " 1ll");
      faulty("i " + sign + " p", "i " + sign + " s", "s " + sign + " s", "s " + sign + " 1", "a " + sign + " 1", "p " + sign + " p", "p " + sign + " 1.5", "vp " + sign + " 1", "fp " + sign + " 1", "ip " + sign + " 1", "1 " + sign + " 1", "d " + sign + " p", "f " + sign + " 1", "i " + sign + " v()", "g().m " + sign + " 1", "(i, i) " + sign + " 1", "p " + sign + " sp", "E " + sign + " 1");
    }
  }

  /** "& : an lvalue that is no bit-field, or a function. Lvalues are identifiers of objects, * , [ ], ->, . of an lvalue, strings and ( ) of these. An assignment wants on the left an lvalue that is no array." */
  private static void lvalues() {
    String[] places = {"i", "*p", "a[1]", "1[a]", "s.m", "sp->m", "(*sp).m", "(i)", "((s)).m", "d", "c", "cp", "p", "fp", "vp", "s", "u", "*sp", "*cp", "\"a\"[0]", "*\"a\"", "g().n[0]", "*g().n", "(1 ? sp : sp)->m", "(i, p)[0]", "*(p = &i)", "sp++->m", "*p++", "u.a", "ci"};
    for (String place : places) {
      boolean record = isOneOf(place, "s u *sp");
      fits("&" + place, "&(" + place + ")", place + " = " + (record ? place : "0"));
    }
    fits("&a", "&s.n", "&\"abc\"", "&f", "&*f", "&g().n[1]", "&a[3]", "&*a", "&(*fp)", "&*fp", "&s.n[1]", "s.b = 1", "sp->b = 2");
    faulty("&s.b", "&sp->b", "&g().m", "&g()", "&1", "&E", "&(i + 1)", "&i++", "&++i", "&-i", "&(i = 1)", "&(i, i)", "&(1 ? i : i)", "&(s = s)", "&(1 ? s : s)", "&(1, s)", "&(&i)", "&(int)i", "&f(1)", "&v()", "&sizeof i", "&!i", "&g().n", "&(1 ? s : s).m", "&(s = s).m", "&1.5");
    faulty("1 = 1", "a = a", "a = 0", "s.n = 0", "f = f", "f = 0", "E = 1", "g() = s", "g().m = 1", "g().b = 1", "g().n = 0", "\"a\" = 0", "i++ = 1", "-i = 1", "&i = p", "(i, i) = 1", "(i = 1) = 1", "(1 ? i : i) = 1", "(1 ? s : s) = s", "(s = s) = s", "(s = s).m = 1", "(1, s).m = 1", "sizeof i = 1", "f(1) = 1", "v() = 1", "((int)i) = 1", "inc = inc", "1.5 = 1");
    faulty("int i = s", "struct s x = u", "s = u", "u = s", "s = 1", "i = s", "s = sp", "sp = s", "p = s", "d = s");
  }

  /** "?: : both arithmetic, both the same type (also void), pointer and NULL, pointer and pointer to void (void * then)" */
  private static void choices() {
    fits("1 ? s : s", "1 ? u : u", "1 ? g() : s", "1 ? v() : v()", "*(1 ? p : p) = 1", "*(1 ? p : a) = 1", "*(1 ? a : a) = 1", "*(1 ? p : 0) = 1", "*(1 ? (void *)0 : p) = 1", "(1 ? f : f)(1)", "(1 ? f : fp)(1)", "(1 ? fp : 0)(1)", "1 ? vp : p", "1 ? \"a\" : cp", "1 ? 1 : 1.5", "1 ? c : 1ll", "(1 ? sp : 0)->m", "(1 ? s : g()).m");
    faulty("1 ? s : u", "1 ? s : 1", "1 ? v() : 1", "1 ? p : cp", "1 ? p : 1", "*(1 ? vp : p)", "*(1 ? p : vp)", "(1 ? vp : f)(1)", "1 ? f : v", "1 ? p : d", "1 ? s : sp", "1 ? sp : up", "1 ? s : v()", "(1 ? 1 : 1.5) % 2", "(1 ? 0 : 0.0) << 1");
    Bench.exits("int main(void) { return sizeof(1 ? (char)1 : (char)2) + sizeof(1 ? 1 : 1ll) + sizeof(1 ? 1.0f : 1) + sizeof(1 ? 1.0f : 1.0) + ((1 ? -1 : 1u) > 0) * 100; }", 4 + 8 + 4 + 8 + 100);
    Bench.exits("int a[5]; int main(void) { return sizeof(1 ? a : a) + sizeof(1 ? \"abc\" : \"a\") + sizeof(0, a); }", 12);
  }

  /** "A cast is from a scalar to a scalar (not between pointer and floating type) or to void." "return: with a value assignable to the function's type, without one only if that is void." */
  private static void castsAndReturns() {
    fits("(char)d", "(double)i", "(int *)i", "(int)p", "(char *)p", "(void)s", "(void)v()", "(void)(void)1", "(int (*)(void))p", "(void *)fp", "(long long)a", "(unsigned char)f", "(float)1ll", "(enum e)d", "(int *)(char)1", "(struct inc *)p", "(struct none *)p", "(int)\"a\"", "(int (*)[3])p", "(size_t)1", "(const int)1");
    faulty("(double)p", "(float)vp", "(int *)d", "(void *)1.5", "(double)a", "(double)f", "(char *)fl", "(int)s", "(struct s)s", "(struct s)i", "(union u)u", "(int)v()", "(int [3])a", "(int (int))f", "(double)\"a\"", "(int)g()", "(struct inc)i", "(struct s)sp");
    String[][] returns = {{"int", "return 1.5;", "+"}, {"int", "return;", "-"}, {"int", "return p;", "-"}, {"int", "return s;", "-"}, {"int", "return v();", "-"}, {"void", "return;", "+"}, {"void", "return 1;", "-"}, {"void", "return v();", "-"}, {"void", "return (void)0;", "-"}, {"int *", "return 0;", "+"}, {"int *", "return p;", "+"}, {"int *", "return vp;", "+"}, {"int *", "return 1;", "-"},
        {"int *", "return cp;", "-"}, {"void *", "return p;", "+"}, {"void *", "return fp;", "+"}, {"struct s", "return s;", "+"}, {"struct s", "return g();", "+"}, {"struct s", "return u;", "-"}, {"struct s", "return;", "-"}, {"struct s", "return 0;", "-"}, {"double", "return 'a';", "+"}, {"double", "return p;", "-"}, {"char", "return 1ll;", "+"}, {"enum e", "return 5;", "+"}};
    for (String[] row : returns) {
      String text = HEAD + row[0] + " k(void) {\n" + row[1] + " }" + MAIN;
      if (row[2].equals("+")) {
        Bench b = new Bench().source(text);
        Bench.due(row[0] + " " + row[1], b.x.compile(), 0);
      } else {
        Bench.faults(text, 4, 3);
      }
    }
  }

  /** "as many arguments as parameters, with ... at least as many, each assignable; those behind are scalars" */
  private static void calls() {
    fits("f(1)", "f('a')", "f(1.5)", "(f)(1)", "(*f)(1)", "(&f)(1)", "(**f)(1)", "fp(1)", "(*fp)(1)", "(fp)(1)", "v()", "g()", "va(1)", "va(1, 2)", "va(1.5, p, d, fl, c, f, a, \"s\", 1ll, E)", "(1 ? f : fp)(1)", "(i, f)(1)", "f(f(1))", "((int (*)(int))vp)(1)");
    // "va_start, va_arg and va_end only in a function with ..., va_start's second argument is its last parameter"
    String more = "int g(int m, int n, ...) { va_list a; va_start(a, n); va_end(a); return va_arg(a, int); } char *a;\n";
    for (String bad : new String[] {"int x = va_arg(a, int);", "int x = (va_start(a, a), 1);", "int x = (va_end(a), 1);", "int h(int n) { return va_arg(a, int); }", "int h(int n) { va_start(a, n); return 0; }", "int h(int n) { va_end(a); return 0; }", "int h(int m, int n, ...) { va_start(a, m); return 0; }",
        "int h(int m, int n, ...) { va_start(a, a); return 0; }", "int h(int m, int n, ...) { va_start(a, n + 0); return 0; }", "int h(int n, ...) { { int n; va_start(a, n); } return 0; }", "int h(int n, ...) { va_start(a); return 0; }", "int h(int n, ...) { va_start(a, n, n); return 0; }", "int h(int n, ...) { va_start(); return 0; }",
        "int h(int n, ...) { va_end(a, n); return 0; }", "int h(int n, ...) { va_end(); return 0; }", "int h(int n, ...) { va_start(n, n); return 0; }", "int h(int n, ...) { va_start(a + 0, n); return 0; }", "int h(int n, ...) { va_end(n); return 0; }", "int h(int n, ...) { va_end(&a); return 0; }", "int h(int n, ...) { return va_arg(n, int); }"}) {
      Bench.faults(more + bad + MAIN, 4, 2);
    }
    right(more + "int h(int n, ...) { { va_list b; va_start(b, n); va_start((a), (n)); va_end(*&b); } return sizeof va_arg(a, int *); } int x = 1;");
    // No value is assignable to a parameter of void.
    for (String bad : new String[] {"w(0, 1)", "w((void *)0, 1)", "w(v(), 1)", "w(1.5, 1)", "w((void)0, 1)", "w(s, 1)", "w(1)", "w()"}) {
      wrong("typedef void V; int w(V, int); void v(void) { } struct s { int a; } s; int k(void) { return " + bad + "; }");
    }
    faulty("f()", "f(1, 2)", "f(p)", "f(s)", "f(v())", "f(\"a\")", "v(1)", "g(1)", "va()", "va(p)", "va(1, s)", "va(1, v())", "va(1, 2, u)", "i(1)", "p(1)", "d()", "s()", "1()", "a(1)", "vp(1)", "(&fp)(1)", "(*p)(1)", "g()()", "f(1)(1)", "\"a\"()", "fp()", "fp(p)", "E()", "va(1, g())", "(*v)(1)");
  }

  /** "of a scalar: an assignable value, also in { }; of a char or unsigned char array: a string (also in { }; its 0 may be left out if there is no room)"; "A scalar takes one pair of { } only" */
  private static void initialiserForms() {
    fits("int x = 1", "int x = { 1 }", "int x = { 1, }", "int *x = { 0 }", "double x = { 'a' }", "char x[3] = \"abc\"", "char x[3] = \"ab\"", "char x[3] = { \"abc\" }", "char x[3] = { \"abc\", }", "char x[] = \"\"", "char x[1] = \"\"", "char x[1] = \"a\"", "unsigned char x[2] = \"ab\"", "signed char x[2] = \"ab\"", "char x[9] = (\"ab\")", "char x[9] = { (\"ab\") }", "char x[2][3] = { \"abc\", \"de\" }",
        "char x[2][3] = { { \"abc\" }, { 'd' } }", "char x[2][3] = { \"ab\", [0][1] = 'c' }", "struct { char c[3]; } x = { \"ab\", .c[1] = 'c', 'd' }", "char x[2][3] = { 'a', 'b', 'c', \"de\" }", "struct s x = s", "struct s x = g()", "struct s x = { 1 }", "struct s x = { 1, 2, 3, 4 }", "struct s x = { 1, { 2, 3 }, 4 }", "struct s x = { 1, { 2 }, { 4 } }", "struct s x = { .b = 1 }", "struct s x = { .n = { 1 } }", "struct s x = { .n[1] = 1, 2 }", "struct s x = {}", "int x[2] = {}", "union u x = { 1 }",
        "union u x = {}", "union u x = u", "union { int a; char b[4]; } x = { .b = \"abc\" }", "union { int a; char b[4]; } x = { .b = { 1, 2 } }", "struct s x[2] = { s, s }", "struct s x[2] = { 1, 2, 3, 4, 5, 6, 7, 0 }", "struct s x[2] = { s, 1, 2 }", "struct s x[2] = { { 1 }, s }", "struct { struct s q; int r; } x = { s, 1 }", "struct { struct s q; int r; } x = { 1, 2, 3, 4, 5 }",
        "struct { struct s q; int r; } x = { .q.n[0] = 1, 2, 3, 4 }", "struct { char q[3]; int r; } x = { \"abc\", 1 }", "struct { char q[3]; int r; } x = { 'a', 'b', 'c', 1 }", "char *x[2] = { \"a\", \"b\" }", "int x[3] = { [2] = 1 }", "int x[3] = { [0] = 1, [0] = 2, 3, 4 }", "int x[2][2] = { [1][1] = 1 }", "int x[2][2] = { [0][1] = 1, 2, 3 }", "struct { int : 3; int a; int : 0; int b; } x = { 1, 2 }",
        "int x = { (1, 2) }", "int (*x)(int) = f", "struct s x = { s.m, { s.n[0] } }", "struct { union { int a; double b; } q; int r; } x = { 1, 2 }", "char x[3] = { 'a', \"b\"[0] }", "struct s x = { 1, 2, .n = { 3 }, 4 }", "int x[2][2] = { { 1 }, 2, 3 }", "int x[1][1] = { { { 1 } } }", "enum e x = { 5 }", "struct { int b : 3; } x = { { 1 } }", "struct { int b : 3, c : 2; } x = { { 1 }, { 2, } }", "struct { int b : 3, c : 2; } x = { .c = { 1.5 } }", "union { unsigned b : 32; } x = { { 'a' } }");
    faulty("int x = {}", "int x = { {1} }", "int x = { 1, 2 }", "int x = { { } }", "int x = s", "int x = p", "int *x = 1", "int *x = { { 0 } }", "char x[3] = \"abcd\"", "char x[3] = { \"abcd\" }", "char x[3] = { \"ab\", 'c' }", "char x[9] = { \"ab\", [3] = 'c' }", "char x[] = { \"ab\", [3] = 'c' }", "char x[2][9] = { { \"ab\", [3] = 'c' } }", "char x[9] = { [3] = 'c', \"ab\" }", "char x[3] = { \"ab\", \"c\" }", "char x[3] = { { \"ab\" } }", "char x[3] = { 'a', \"bc\" }", "char x[] = 'a'", "char x[2] = cp", "char x[3] = 1 ? \"ab\" : \"ab\"",
        "short x[3] = \"ab\"", "int x[3] = \"ab\"", "char x = \"a\"", "char *x = { \"a\", \"b\" }", "int x[2] = 1", "int x[2] = a", "int x[3] = a", "int x[2] = { 1, 2, 3 }", "int x[2] = { { 1, 2 } }", "int x[2] = { [2] = 1 }", "int x[2] = { [-1] = 1 }", "int x[2] = { [1] = 1, 2 }", "int x[2] = { .m = 1 }", "struct s x = 1", "struct s x = u", "struct s x = { 1, 2, 3, 4, 5 }", "struct s x = { .q = 1 }", "struct s x = { [0] = 1 }",
        "struct s x = { .b = 1, 2 }", "struct s x = { 1, { 2, 3, 4 } }", "struct s x = { { 1, 2 } }", "struct s x = { .m.q = 1 }", "struct s x = { .m[0] = 1 }", "struct s x = { .n.q = 1 }", "struct s x = { .n[2] = 1 }", "union u x = { 1, 2 }", "union u x = { .a = 1, 2 }", "int x = { [0] = 1 }", "int x = { .m = 1 }", "int x[2] = { s }", "int x[2] = { p }", "struct s x[1] = { s, s }", "struct s x[1] = { s, 1 }",
        "struct { struct s q; } x = u", "struct { struct s q; } x = { u }", "int x[1][1] = { { { { 1 } } } }", "int x[2][2] = { [2][0] = 1 }", "int x[2][2] = { [0][2] = 1 }", "int x[2][2] = { 1, 2, 3, 4, 5 }", "int x[2][2] = { { 1, 2, 3 } }", "struct { int : 3; int a; } x = { 1, 2 }", "int f2(void) = 1", "typedef int x = 1", "void x = 1", "int x = v()", "char x[2][2] = { \"abc\" }", "char x[2] = { [0] = \"ab\" }", "char x[2][2] = { [0][0] = \"a\" }", "struct { int b : 3; } x = { {} }", "struct { int b : 3; } x = { { 1, 2 } }", "struct { int b : 3; } x = { { { 1 } } }", "struct { int b : 3; } x = { { [0] = 1 } }", "struct { int b : 3; } x = { { .b = 1 } }", "struct { int b : 3; } x = { { p } }",
        "struct { int b : 3; } x = { { s } }", "struct { int b : 3; } x = { p }", "struct { int b : 3; } x = { \"a\" }", "struct { int b : 3; } x = { .b.c = 1 }", "struct { int b : 3; } x = { .b[0] = 1 }", "union { unsigned b : 32; } x = { { 1 }, { 2 } }", "struct { int b : 3, c : 2; } x = { .c = { 1 }, { 2 } }");
  }

  /** "An array without length has that of its greatest element told and 1." */
  private static void openArrays() {
    String[][] lengths = {{"{ 1 }", "1"}, {"{ 1, 2, 3 }", "3"}, {"{ [4] = 1 }", "5"}, {"{ [4] = 1, 2 }", "6"}, {"{ [4] = 1, [0] = 2, 3 }", "5"}, {"{ 1, 2, [1] = 3, 4, 5 }", "4"}, {"{ [0] = 1 }", "1"}};
    for (String[] row : lengths) {
      Bench.exits("int a[] = " + row[0] + "; int main(void) { int b[] = " + row[0] + "; static int c[] = " + row[0] + "; return sizeof a == 4 * " + row[1] + " && sizeof b == sizeof a && sizeof c == sizeof a; }", 1);
    }
    Bench.exits("int a[][2] = { 1, 2, 3 }, b[][2] = { { 1 }, { 2 }, 3 }, c[][2] = { [2][1] = 5 }; struct { int x, y; } d[] = { 1, 2, 3 }; char e[] = \"abc\", f[] = { \"abc\" }, g[][3] = { \"abc\", \"d\" }; int main(void) { return sizeof a == 16 && sizeof b == 24 && sizeof c == 24 && sizeof d == 16 && sizeof e == 4 && sizeof f == 4 && sizeof g == 6; }", 1);
    wrong("int a[] = {};");
    wrong("char a[] = { [262144] = 1 };");
    Bench.faults("char a[] = { [262143] = 1 };" + MAIN, 5, 2);
    wrong("int a[] = { [65536] = 1 };");
    // The greatest that an array in a function may become, which its frame just holds.
    right("void f(void) { char a[] = { [262143] = 1 }; }");
    right("void f(void) { struct { char c[5]; } a[] = { [52427] = { 1 } }; }");
    right("void f(void) { char a[][5] = { [52427][4] = 1 }; }");
    right("void f(void) { short a[] = { [131070] = 1, 2 }; }");
    for (String bad : new String[] {"char a[] = { [262144] = 1 }", "char a[] = { [262143] = 1, 2 }", "char a[] = { [262145] = 1 }", "char a[] = { [4294967296] = 1 }", "char a[] = { [9223372036854775807] = 1 }", "char a[] = { [18446744073709551615u] = 1 }", "char a[] = { [-1] = 1 }", "struct { char c[5]; } a[] = { [52428] = { 1 } }",
        "struct { char c[5]; } a[] = { [52427] = { 1 }, 2 }", "char a[][5] = { [52428][0] = 1 }", "char a[][5] = { [0][5] = 1 }", "short a[] = { [131072] = 1 }", "short a[] = { [131071] = 1, 2 }", "char a[] = { [2147483647] = 1 }"}) {
      wrong("void f(void) { " + bad + "; }");
    }
    // In elements that have no braces strings initialise char arrays too, and lie nowhere else.
    Bench b = Bench.exits("struct { char c[4]; } a[2] = { \"abc\", \"de\" }; char c[1][2][4] = { \"abc\", \"de\" }; struct { struct { char c[4]; } n; char *p; } t = { \"abc\", \"def\" }; struct { union { char c[2]; int i; } u[2]; } v = { \"a\", \"b\" };"
        + " int main(void) { return a[1].c[1] == 'e' && c[0][1][0] == 'd' && t.n.c[2] == 'c' && t.p[2] == 'f' && v.u[1].c[0] == 'b'; }", 1);
    Bench.due("strings in memory", b.x.about(2), 1);
    wrong("int a[2][] = { { 1 } };");
    wrong("int a[] = 1;");
    wrong("short a[] = \"ab\";");
    wrong("int (*a)[] = { 1 };");
    Bench.exits("typedef int T[]; T a = { 1 }, b = { 1, 2 }; int main(void) { T c = { 1, 2, 3 }; return sizeof a + sizeof b + sizeof c; }", 24);
    Bench.exits("int main(void) { int x[] = { sizeof(int), 2 }; char y[] = \"ab\", z = 5; return x[0] + sizeof y + z; }", 12);
  }

  /** "A static object in a function may not use identifiers of the function's own parameters and objects that are not static, extern or enumerators, but in sizeof." */
  private static void staticNames() {
    String head = "int g = 5; int h(int n) { return n; } int k(int par) { int loc = 1; static int st = 2; extern int g; enum { EN = 3 };\n";
    for (String good : new String[] {"st", "g", "EN", "h(3)", "sizeof loc", "sizeof par", "&st == 0", "(int)&g", "sizeof(loc + par)", "st + g + EN", "h(st)", "sizeof h(loc)", "(int)k", "\"a\"[0]"}) {
      Bench b = new Bench().source(head + "static int x = " + good + "; return x; }" + MAIN);
      Bench.due(good, b.x.compile(), 0);
      b = new Bench().source(head + "static int x[2] = { " + good + " }; return *x; }" + MAIN);
      Bench.due(good, b.x.compile(), 0);
    }
    for (String bad : new String[] {"loc", "par", "&loc == 0", "(int)&par", "loc + 1", "0 && loc", "1 ? 1 : par", "h(loc)", "(sizeof loc, loc)", "x2", "sizeof loc + loc"}) {
      Bench.faults(head + "static int x = " + bad + "; return x; }" + MAIN, 4, 2);
      Bench.faults(head + "static int x[2] = { 1, " + bad + " }; return *x; }" + MAIN, 4, 2);
    }
    Bench.faults(head + "extern int e2 = loc; return 0; }" + MAIN, 4, 2);
    Bench.exits("int main(void) { static int *p = (int *)&p; static int x = sizeof x; return p == (int *)&p && x == 4; }", 1);
    Bench.exits("int main(void) { int loc = 7; { static int x = 5; int loc2 = loc; return x + loc2; } }", 12);
  }

  /** "break in a loop or switch, continue in a loop, case and default in a switch (case values, cast to the switch's promoted type, not twice; one default); labels of a function once" */
  private static void labelsAndCases() {
    fits("while (1) break", "do break; while (1)", "for (;;) break", "switch (1) break", "while (0) continue", "do continue; while (0)", "for (; 0; ) continue", "while (0) switch (1) { case 1: continue; }", "switch (1) while (1) break", "switch (1) { { case 1: ; } if (1) { default: ; } while (0) { case 2: ; } }", "switch (1) { case 1: switch (1) { case 1: default: ; } default: ; }",
        "switch (c) { case 1: case 257: ; }", "switch (1ll) { case 1: case 4294967297ll: ; }", "switch (1) { case 'a': case 98: ; }", "l: goto l2; l2: ;", "{ m: ; } goto m", "goto n; { n: ; }", "switch (s.b) { case 0: case 8: ; }", "switch (1) ;", "switch (E) { case E: case ONE: ; }", "while (0) switch (1) continue", "while (0) { switch (1) { case 1: continue; } continue; }", "switch (1) { while (0) switch (2) { case 1: default: ; } case 1: default: ; }", "switch (1) { while (0) { case 1: default: ; } }");
    faulty("break", "continue", "if (1) break", "switch (1) continue", "switch (1) { continue; }", "case 1: ;", "default: ;", "while (1) { case 1: ; }", "{ break; }", "switch (d) ;", "switch (p) ;", "switch (s) ;", "switch (v()) ;", "switch (1) { case i: ; }", "switch (1) { case 1.0: ; }", "switch (1) { case (int)1.0: ; }", "switch (1) { case p: ; }", "switch (1) { case \"a\": ; }",
        "switch (1) { case 1: case 1: ; }", "switch (1) { case 1: case 4294967297ll: ; }", "switch (1) { case 'a': case 97: ; }", "switch (c) { case 1: case 1: ; }", "switch (1u) { case -1: case 4294967295u: ; }", "switch (1ll) { case 1: case 1u: ; }", "switch (1) { case 0: case Z: ; }", "switch (1) { default: default: ; }", "switch (1) { default: while (0) default: ; }", "switch (1) { while (0) { default: ; } default: ; }", "switch (1) { do default: ; while (0); default: ; }", "switch (1) { for (; 0; ) case 1: ; case 1: ; }", "switch (1) { case 1: case 2: case 3: case 4: case 1: ; }", "switch (1) { case 1: case 2: case 3: case 4: case 2: ; }",
        "switch (1) { case 1: case 2: case 3: case 4: case 3: ; }", "switch (1) { case 1: case 2: case 3: case 4: case 4: ; }", "switch (1) { while (0) switch (2) { case 1: ; } case 1: case 1: ; }", "switch (1) { switch (2) { default: ; } default: default: ; }", "switch (1) { switch (2) continue; }",
 "switch (1) { case 1: { case 1: ; } }",
        "l: l: ;", "l: ; { l: ; }", "switch (1) { case 1 / 0: ; }", "switch (1) case 2: ; case 3: ;");
    Bench.faults("int f(void) { l: return 0; }\nint main(void) { goto l;\n}", 4, 3);
    Bench.exits("int f(void) { l: return 3; } int main(void) { goto l; l: return f(); }", 3);
    Bench.exits("int main(void) { int l = 3; goto l; l: return l; }", 3);
    Bench.faults("int main(void) {\ngoto l;\nreturn 0;\n\n}", 4, 5);
  }

  /** "main is a function with int as answer and no parameters, or int and char **." */
  private static void mains() {
    for (String good : new String[] {"int main(void)", "int main()", "int main(int a, char **b)", "int main(int a, char *b[])", "int main(int a, char *b[5])", "static int main(void)", "signed main(void)", "long main(long a, signed char **b)", "int main(const int a, char **const b)", "extern int main(void)", "inline int main(void)", "enum { A } main(void)"}) {
      Bench b = new Bench().source(good + " { return 3; }").runs(good, 9, 0, 0);
      Bench.due(good, b.x.exitCode(), 3);
    }
    for (String bad : new String[] {"void main(void)", "char main(void)", "unsigned main(void)", "int *main(void)", "int main(int a)", "int main(char **a)", "int main(int a, char *b)", "int main(int a, char **b, char **c)", "int main(int a, ...)", "int main(int a, char **b, ...)", "int main(unsigned a, char **b)", "int main(int a, unsigned char **b)", "int main(int a, void *b)",
        "int main(char **a, int b)", "int main(int a, char ***b)", "short main(void)", "struct s { int a; } main(void)", "double main(void)"}) {
      Bench.faults(bad + " { }\nint x;", 4, 1);
      Bench.faults(bad + ";\nint x;", 4, 1);
    }
    wrong("int main, x;");
    Bench.faults("\nint main;", 4, 2);
    Bench.faults("\nenum { main };", 4, 2);
    Bench.faults("\ntypedef int main;", 4, 2);
    Bench.faults("int main(void);\nint x;\n", 4, 2);
    Bench.faults("int x;\nint y;\n", 4, 2);
    Bench.faults("", 4, 1);
    Bench.faults("int f(void) {\nint main(int a); return 0; }" + MAIN, 4, 2);
    Bench.faults("int f(void) {\nextern int main; return 0; }" + MAIN, 4, 2);
    Bench.exits("int main(void) { typedef char main; main x = 3; return x + sizeof(main); }", 4);
    Bench.exits("int main(void) { enum { main = 3 }; return main; }", 3);
    Bench.exits("int main(void) { { char main = 3; static int n; } return 4; }", 4);
    Bench.faults("int f(enum { main } a) { return main; }\nint x;", 4, 2);
    Bench.exits("int f(void) { int main = 3; return main; } struct main { int main; }; int main(void) { main: return f(); }", 3);
  }
}
