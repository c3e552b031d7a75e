/** The boundary cases of sections 7 and 8: memory, values, calls, steps, outcomes. */
public final class MachineBoundsTest {
  private static final String MAIN = "int main(void) { return 0; }\n";

  public static void main(String[] args) {
    placesOfObjects();
    fitsAt240000();
    heapBegins();
    frames();
    framesThatAreTooGreat();
    access();
    accessOfStructs();
    membersOfAnswers();
    castsFromFloating();
    castsOfIntegers();
    divisions();
    shifts();
    floatingTraps();
    pointers();
    thousandCalls();
    stackMeetsHeap();
    placesBehindTheDots();
    initialFrame();
    argumentsOfMain();
    argumentsThatDoNotFit();
    steps();
    linesOfOutcomes();
    answers();
    functionAddresses();
    switches();
    initialisersAtRunTime();
    lazy();
    bitsOfNumbers();
    lists();
    bitFields();
    Bench.finish();
  }

  /** "From 1024 on lie, in the order of the text of their (first) declarations .. each at the next place that its alignment divides; behind them .. all strings .. at the next byte each" */
  private static void placesOfObjects() {
    Bench b = Bench.exits("char a = 1; short b = 2; char c = 3; int d = 4; char e = 5; double f = 1; char g[3] = \"xy\"; struct { char h; } i = { 6 }; struct { char j; short k; } l = { 7, 8 };"
        + " char *m = \"q\", *n = \"rs\"; char o = 9; int main(void) { static char p = 10; char *z = \"t\"; return 0; }", 0);
    int[][] due = {{1024, 1}, {1026, 2}, {1028, 3}, {1032, 4}, {1036, 5}, {1044, 0x3ff00000}, {1051, 6}, {1054, 8}, {1056, 1066}, {1060, 1068}, {1064, 9}, {1065, 10}};
    for (int[] row : due) {
      int mask = row[1] > 65535 || row[0] == 1056 || row[0] == 1060 ? -1 : 255;
      Bench.due("at " + row[0], b.x.memory(row[0]) & mask, row[1]);
    }
    Bench.due("strings", b.x.memory(1066), 'q' | 'r' << 16 | 's' << 24);
    Bench.due("the last string", b.x.memory(1070), 't' << 8);
    Bench.due("heapEnd", b.x.heapEnd(), 1088);
    b = Bench.exits("extern int b; int a = 1; int b = 2; int f(void); int c[]; int d = 4; int c[2] = { 3, 3 };" + MAIN, 0);
    Bench.due("b by its first declaration", b.x.memory(1024), 2);
    Bench.due("a", b.x.memory(1028), 1);
    Bench.due("c by its first declaration", b.x.memory(1032), 3);
    Bench.due("d", b.x.memory(1040), 4);
    b = Bench.exits("int f(void) { extern int late; static int s = 5; return late; } int a = 1; int late = 2;" + MAIN, 0);
    Bench.due("late, declared in a block", b.x.memory(1024), 2);
    Bench.due("s", b.x.memory(1028), 5);
    Bench.due("a", b.x.memory(1032), 1);
    b = Bench.exits("extern int none; extern int none2[]; int a = 1;" + MAIN, 0);
    Bench.due("extern objects neither defined nor used have no place", b.x.memory(1024), 1);
    Bench.due("and are not counted", b.x.about(1), 1);
    b = Bench.exits("char a[] = \"no string in memory\"; char b[3] = { \"ab\" }; char *c[2] = { \"yes\" }; int d[sizeof \"yes too\"];" + MAIN, 0);
    Bench.due("strings", b.x.about(2), 2);
  }

  /** "Does all that not fit at 240000 or below: fault 5 at the line of the last token." */
  private static void fitsAt240000() {
    Bench b = new Bench().source("char a[238976];\n" + MAIN).runs("objects end at 240000", 9, 0, 0);
    Bench.due("heapEnd", b.x.heapEnd(), 240000);
    Bench.faults("char a[238977];\n" + MAIN + "\n\n", 5, 2);
    b = new Bench().source("char a[238968]; char *p = \"\";\nint main(void) { \"12\"; return 0; }").runs("strings end at 240000", 9, 0, 0);
    Bench.due("heapEnd", b.x.heapEnd(), 240000);
    b = new Bench().source("char a[238968]; char *p = \"123\";\nint main(void) { return 0; }").runs("a string ends at 240000", 9, 0, 0);
    Bench.due("heapEnd", b.x.heapEnd(), 240000);
    Bench.faults("char a[238968]; char *p = \"1234\";\nint main(void) { return 0; }", 5, 2);
    Bench.faults("char a[238972]; char *p = \"\";\nint main(void) { return 0; }", 5, 2);
    Bench.faults("char a[238968]; char *p = \"12345\";\nint main(void) {\nreturn 0; }", 5, 3);
    b = new Bench().source("char a[238975];\n" + MAIN).runs("rounded up to 240000", 9, 0, 0);
    Bench.due("heapEnd", b.x.heapEnd(), 240000);
    b = new Bench().source("char a[238961];\n" + MAIN).runs("just above 239984", 9, 0, 0);
    Bench.due("heapEnd", b.x.heapEnd(), 240000);
    b = new Bench().source("char a[238960];\n" + MAIN).runs("239984", 9, 0, 0);
    Bench.due("heapEnd", b.x.heapEnd(), 239984);
    Bench.faults("char a[262144];\n" + MAIN, 5, 2);
    Bench.faults("char a[200000], b[200000], c[262144], d[262144];\n" + MAIN, 5, 2);
    new Bench().header("h", "char b[262144];\n\n;").source("char a[262144]\n;int main(void) { return 0; }\nint x\n;").refused("the last token", 5, 4, 0);
  }

  /** "at the next multiple of 16, begins the HEAP" */
  private static void heapBegins() {
    for (int size : new int[] {1, 15, 16, 17, 31, 32, 33}) {
      Bench b = Bench.exits("char a[" + size + "];" + MAIN, 0);
      Bench.due("heapEnd behind " + size, b.x.heapEnd(), 1024 + (size + 15) / 16 * 16);
      b = Bench.exits("int main(void) { \"" + "x".repeat(size - 1) + "\"; return 0; }", 0);
      Bench.due("heapEnd behind a string of " + size, b.x.heapEnd(), 1024 + (size + 15) / 16 * 16);
    }
  }

  /** "each at the next place that its alignment divides, from the frame's beginning on; its size is rounded up to a multiple of 8 .. the bytes are made 0 then" */
  private static void frames() {
    Object[][] frames = {{"", 0}, {"char a;", 8}, {"char a[8];", 8}, {"char a[9];", 16}, {"char a; int b;", 8}, {"char a; int b; char c;", 16}, {"double a; char b;", 16}, {"char a; double b;", 16}, {"{ int a; } { int b; } { int c; }", 16},
        {"static int a[9]; extern int e; int b;", 8}, {"for (int i = 0; i < 1; i++) { char c; }", 8}, {"char a[] = \"12345678\";", 16}, {"char a[] = \"1234567\";", 8}, {"struct { char a[3]; } x, y, z;", 16}, {"typedef int T; enum { A };", 0}};
    for (Object[] row : frames) {
      Bench b = Bench.exits("int e; int main(void) { " + row[0] + " return 0; }", 0);
      Bench.due("frame of " + row[0], b.x.about(4), (Integer) row[1]);
      Bench.due("lowest of " + row[0], b.x.lowest(), 262144 - (Integer) row[1]);
    }
    Bench b = Bench.exits("int f(char a, int b, char c) { char d = 4; return 0; } int main(void) { f(1, 2, 3); return 0; }", 0);
    Bench.due("parameters first", b.x.memory(262144 - 16) & 255, 1);
    Bench.due("b", b.x.memory(262144 - 12), 2);
    Bench.due("c", b.x.memory(262144 - 8) & 255, 3);
    Bench.due("d right behind", b.x.memory(262144 - 7) & 255, 4);
    Bench.exits("int f(int n) { int a[5]; int s = a[0] | a[4]; a[0] = n; a[4] = n; return s; } int main(void) { f(1); f(2); return f(3); }", 0);
    // A place for each call that answers a struct, in the order of the calls' (.
    b = Bench.exits("struct s { int a; }; struct t { double d; }; struct s f(int n) { struct s r; r.a = n; return r; } struct t g(struct s x) { struct t r; r.d = x.a; return r; }"
        + " int main(void) { char c = 9; g(f(3)); return 0; }", 0);
    Bench.due("the place of g", b.x.memory(262144 - 16 + 8), 0x40080000);
    Bench.due("the place of f", b.x.memory(262144 - 4), 3);
    Bench.due("the greatest frame", b.x.about(4), 16);
    Bench.due("that of main", b.x.memory(262144 - 16), 9);
  }

  /** "A frame above 262144 bytes is fault 5 at the function's last token" */
  private static void framesThatAreTooGreat() {
    new Bench().source("int f(void) { char a[262144];\n}\n" + MAIN).runs("just as great", 9, 0, 0);
    new Bench().source("int f(void) { char a[262137];\n}\n" + MAIN).runs("rounded up", 9, 0, 0);
    Bench.faults("int f(void) { char a[262144]; char b;\n}\n" + MAIN, 5, 2);
    Bench.faults("int f(char b) { char a[262144];\n}\n" + MAIN, 5, 2);
    Bench.faults("int f(void) { char a[262136], b[8], c;\n\n}\n" + MAIN, 5, 3);
    new Bench().source("int f(void) { char a[262136], b[8];\n\n}\n" + MAIN).runs("two", 9, 0, 0);
    Bench.faults("struct s { char a[200000]; } g(void); int f(void) { g(); { g(); }\n}\n" + MAIN, 5, 2);
    new Bench().source("struct s { char a[131072]; } g(void) { struct s r; return r; } int f(void) { g(); g();\n}\n" + MAIN).runs("two answers", 9, 0, 0);
    Bench.faults("struct s { char a[131072]; } g(void) { struct s r; return r; } int f(void) { g(); g(); sizeof g();\n}\n" + MAIN, 5, 2);
    // Of the initial frame at the unit's last token.
    new Bench().source("struct s { char a[100000]; } g(void) { struct s r; return r; } char a = sizeof g(), b = sizeof g();\n" + MAIN).runs("an initial frame", 9, 0, 0);
    Bench.faults("struct s { char a[100000]; } g(void) { struct s r; return r; } char a = sizeof g(), b = sizeof g(), c = sizeof g();\n" + MAIN, 5, 2);
    Bench.faults("int f(void) { char a[262144]; char b; goto l;\n}\n" + MAIN, 4, 2);
    Bench.faults("int f(void) { char a[262144]; char b;\n}\nint main(void) { return undeclared; }", 5, 2);
  }

  /** "ACCESS to an address below 1024, or with a byte at 262144 or above (addresses are without sign): trap 1. Accesses need no alignment." */
  private static void access() {
    String[][] types = {{"char", "1"}, {"unsigned char", "1"}, {"short", "2"}, {"unsigned short", "2"}, {"int", "4"}, {"unsigned", "4"}, {"long long", "8"}, {"unsigned long long", "8"}, {"float", "4"}, {"double", "8"}, {"char *", "4"}, {"int (*", "4"}};
    for (String[] type : types) {
      int size = Integer.parseInt(type[1]);
      String pointer = type[0].endsWith("(*") ? "int (**)(void)" : type[0] + "*";
      for (String use : new String[] {"*P;", "*P = 0;", "P[0];", "&*P; *P, 1;"}) {
        for (long address : new long[] {1024, 1025, 262144 - size, 262144 - size - 1}) {
          Bench.exits("int main(void) { " + use.replace("P", "((" + pointer + ")" + address + ")") + " return 3; }", 3);
        }
        for (long address : new long[] {0, 1, 1023, 262144 - size + 1, 262144, 262145, 2147483647, 2147483648L, 4294967295L, 4294967295L - size + 1}) {
          Bench.traps("int main(void) {\n" + use.replace("P", "((" + pointer + ")" + address + "u)") + " return 3; }", 1, 2);
        }
      }
    }
    Bench.traps("int main(void) { char *p = (char *)1024;\np[-1] = 0; }", 1, 2);
    Bench.traps("int main(void) { char *p = (char *)0;\np[-1] = 0; }", 1, 2);
    Bench.traps("char c; int main(void) {\n&c - 1; &c + 9; *(&c - 1); }", 1, 2);
    Bench.exits("char a[12]; int main(void) { for (int i = 0; i < 8; i++) { *(int *)(a + i) = 0x01020304; if (a[i] != 4 || a[i + 3] != 1 || *(short *)(a + i + 1) != 0x0203) return 1; *(double *)(a + i % 5) = 0.5; if (*(double *)(a + i % 5) != 0.5) return 2; } return 3; }", 3);
    Bench.traps("struct { unsigned a : 3; } *p = (void *)262141; int main(void) {\nreturn p->a; }", 1, 2);
    Bench.traps("struct { unsigned a : 3; } *p = (void *)262141; int main(void) {\np->a = 1; }", 1, 2);
    Bench.traps("struct { unsigned a : 3; } *p = (void *)1023; int main(void) {\np->a++; }", 1, 2);
    Bench.exits("struct { unsigned a : 3; } *p = (void *)262140; int main(void) { p->a = 5; return p->a; }", 5);
    Bench.exits("struct { char c[5]; } *p = (void *)262140; int main(void) { return &p->c[4] == (char *)262144; }", 1);
  }

  /** "A struct copied is read whole, then written whole (trap 1 before anything is written)." */
  private static void accessOfStructs() {
    String s = "struct s { int a[4]; } x = { 1, 2, 3, 4 }, *p; ";
    Bench.exits(s + "int main(void) { p = (void *)262128; *p = x; return p->a[3]; }", 4);
    Bench.exits(s + "int main(void) { p = (void *)1024; x = *p; return x.a[3]; }", 4);
    Bench b = Bench.traps(s + "int main(void) {\n*(p = (void *)262132) = x; }", 1, 2);
    Bench.due("nothing is written", b.x.memory(262132) | b.x.memory(262140), 0);
    b = Bench.traps(s + "int main(void) {\nx = *(p = (void *)262132); }", 1, 2);
    Bench.due("nothing is written", b.x.memory(1024), 1);
    b = Bench.traps(s + "int main(void) {\nx = *(p = (void *)1020); }", 1, 2);
    Bench.due("nothing is written", b.x.memory(1036), 4);
    b = Bench.traps("char pad[4]; " + s + "int main(void) {\n*(p = (void *)1020) = x; }", 1, 2);
    Bench.due("nothing is written", b.x.memory(1024), 0);
    Bench.traps("struct s { int a[4]; } *p = (void *)262132; int f(struct s v) { return 0; } int main(void) {\nreturn f(*p); }", 1, 2);
    Bench.traps("struct s { int a[4]; } *p = (void *)262132; struct s f(void) {\nreturn *p; } int main(void) {\nf(); }", 1, 2);
    Bench.traps("struct s { int a[4]; } *p = (void *)262132; int main(void) {\nstruct s v = *p; }", 1, 2);
    Bench.exits("struct s { int a[4]; } x[2] = { 1, 2, 3, 4, 5, 6, 7, 8 }; int main(void) { *(struct s *)&x[0].a[2] = x[0]; return x[0].a[2] * 10 + x[1].a[1]; }", 14);
    Bench.exits("struct s { int a[4]; } x[2] = { 1, 2, 3, 4, 5, 6, 7, 8 }; int main(void) { x[0] = *(struct s *)&x[0].a[2]; return x[0].a[0] * 10 + x[0].a[3]; }", 36);
  }

  /** "A struct or union that is no lvalue is the place where it stands .. and is read when it is used"; "A member of a struct that is no lvalue is read from the place of the call's answer." */
  private static void membersOfAnswers() {
    String f = "struct o { int k; struct i { int a, b; } i; int v[2]; } f(int n) { struct o r = { n, { n + 1, n + 2 }, { n + 3, n + 4 } }; return r; } int g(struct i x) { return x.a * 10 + x.b; } struct i h(void) { return f(5).i; } ";
    Bench.exits(f + "int main(void) { struct i x = f(1).i, y; y = f(2).i; return x.a * 100 + x.b * 10 + y.a * 4 + y.b - 100; }", 2 * 100 + 3 * 10 + 3 * 4 + 4 - 100);
    Bench.exits(f + "int main(void) { return g(f(3).i) + h().b + f(4).i.a; }", 45 + 7 + 5);
    Bench.exits(f + "int main(void) { struct i y[2] = { f(1).i, 9, f(0).i.b }, z[2] = { [1] = f(2).i }; return y[0].b * 10 + y[1].a + y[1].b + z[1].b; }", 3 * 10 + 9 + 2 + 4);
    Bench.exits(f + "int main(void) { return f(0).v[1] * 10 + *f(1).v + sizeof f(2).v + sizeof f(2).i + (f(3).v + 1)[0]; }", 4 * 10 + 4 + 8 + 8 + 7);
    Bench.exits(f + "struct o s; int main(void) { int c = 1; return (c ? f(1) : s).i.a * 10 + (c, f(2)).i.b + (s = f(3)).i.a + (c ? f(1).i : h()).b; }", 2 * 10 + 4 + 4 + 3);
    Bench.exits(f + "int main(void) { struct i *p; struct i x = (p = 0, f(6).i); return x.b + (f(1).i, f(2).i).a; }", 8 + 3);
    Bench.exits("union u { struct i { int a, b; } i; int v[2]; } f(void) { union u r = { { 3, 4 } }; return r; } int main(void) { struct i x = f().i; return x.a * 10 + x.b + f().v[1]; }", 38);
    for (String bad : new String[] {"f(1).i = x", "f(1).i.a = 1", "f(1).k++", "&f(1).i", "&f(1).v", "f(1).v = 0", "&f(1)", "f(1) = f(1)", "(c ? f(1) : s).k = 1", "(c, s).k = 1", "(s = s).k = 1", "&(s = s)", "&(c, s).i"}) {
      Bench.faults(f + "struct o s; int main(void) { int c = 1; struct i x = { 1 };\n" + bad + "; return 0; }", 4, 2);
    }
    Bench.exits(f + "struct o s; int main(void) { f(1).v[0] = 1; *f(1).v = 2; return *&f(1).v[1] + s.k; }", 5);
  }

  /** "from floating types cut towards 0, trap 5 if that is not a value of the type" */
  private static void castsFromFloating() {
    String[][] edges = {{"char", "-128", "127"}, {"signed char", "-128", "127"}, {"unsigned char", "0", "255"}, {"short", "-32768", "32767"}, {"unsigned short", "0", "65535"}, {"int", "-2147483648", "2147483647"},
        {"long", "-2147483648", "2147483647"}, {"unsigned", "0", "4294967295"}};
    for (String[] edge : edges) {
      long least = Long.parseLong(edge[1]);
      long most = Long.parseLong(edge[2]);
      for (String fraction : new String[] {".0", ".5", ".99"}) {
        cast(edge[0], most + fraction, "" + most);
        cast(edge[0], "-" + -least + fraction, "" + least);
      }
      trapsCast(edge[0], (most + 1) + ".0");
      trapsCast(edge[0], "-" + (1 - least) + ".0");
      trapsCast(edge[0], "1e30");
      trapsCast(edge[0], "-1e30");
      trapsCast(edge[0], "(1e308 * 10)");
      trapsCast(edge[0], "-(1e308 * 10)");
    }
    cast("long long", "0x1.fffffffffffffp62", "9223372036854774784ll");
    cast("long long", "-0x1p63", "(-9223372036854775807ll - 1)");
    trapsCast("long long", "0x1p63");
    trapsCast("long long", "-0x1.0000000000001p63");
    cast("unsigned long long", "0x1.fffffffffffffp63", "18446744073709549568ull");
    cast("unsigned long long", "0x1p63", "9223372036854775808ull");
    cast("unsigned long long", "0x1.fffffffffffffp62", "9223372036854774784ull");
    cast("unsigned long long", "-0.99", "0");
    trapsCast("unsigned long long", "0x1p64");
    trapsCast("unsigned long long", "-1.0");
    trapsCast("unsigned", "-1.0");
    cast("unsigned", "-0.0", "0");
    cast("int", "2147483520.0f", "2147483520");
    trapsCast("int", "2147483648.0f");
    Bench.traps("char c; double d = 200; int main(void) {\nc = d; }", 5, 2);
    Bench.traps("int f(char c) { return c; } double d = 200; int main(void) {\nreturn f(d); }", 5, 2);
    Bench.traps("double d = 200; char f(void) {\nreturn d; } int main(void) {\nreturn f(); }", 5, 2);
    Bench.traps("double d = 1e10; int main(void) {\nint x = d; }", 5, 2);
    Bench.traps("char c = 100; int main(void) {\nc *= 1.3; }", 5, 2);
    Bench.traps("double d = 200;\nchar c = d;\n" + MAIN, 5, 2);
    Bench.exits("double d = 3e9; int main(void) { if (d) return d > 2147483647; return 9; }", 1);
  }

  private static void cast(String type, String from, String to) {
    Bench.exits("double d; int main(void) { d = " + from + "; return (" + type + ")d == " + to + "; }", 1);
    Bench.exits("int main(void) { " + type + " x = " + from + "; return x == " + to + "; }", 1);
  }

  private static void trapsCast(String type, String from) {
    Bench.traps("double d; int main(void) { d = " + from + ";\n(" + type + ")d; }", 5, 2);
    Bench.traps("int main(void) {\n" + type + " x = " + from + "; }", 5, 2);
  }

  /** "from integers the lowest bits"; "To float and double: the nearest"; "Casts of 64-bit integers to float round once." */
  private static void castsOfIntegers() {
    String[] hold = {"(char)127 == 127", "(char)128 == -128", "(char)255 == -1", "(char)256 == 0", "(unsigned char)256 == 0", "(unsigned char)-1 == 255", "(short)32768 == -32768", "(short)65536 == 0", "(unsigned short)65536 == 0", "(unsigned short)-1 == 65535",
        "(int)2147483648ll == -2147483647 - 1", "(int)4294967296ll == 0", "(unsigned)4294967296ll == 0", "(unsigned)-1ll == 4294967295u", "(long long)4294967295u == 4294967295ll", "(long long)-1 == -1ll", "(unsigned long long)-1 == 18446744073709551615u",
        "(unsigned long long)4294967295u == 4294967295u", "(double)9007199254740993ll == 9007199254740992.0", "(double)9007199254740995ll == 9007199254740996.0", "(double)18446744073709551615u == 0x1p64", "(double)9223372036854775807ll == 0x1p63",
        "(double)9223372036854776833u == 0x1.0000000000001p63", "(double)9223372036854776832u == 0x1p63", "(float)16777217 == 16777216.0", "(float)16777219 == 16777220.0", "(float)4294967295u == 4294967296.0", "(float)-16777217 == -16777216.0",
        "(float)9223372586610589697u == 0x1.000002p63", "(float)9223372586610589696u == 0x1p63", "(float)18446743523953737728u == 0x1p64", "(float)18446743523953737727u == 0x1.fffffep63",
        "(float)1152921573326323713ll == 0x1.000002p60", "(float)1152921573326323712ll == 0x1p60", "(float)-1152921573326323713ll == -0x1.000002p60", "(int)(char *)-1 == -1", "(long long)(char *)-1 == 4294967295ll", "(unsigned char)(char *)511 == 255", "(char *)-1ll == (char *)4294967295u", "(char *)(char)-1 == (char *)4294967295u", "(char *)4294967296ll == 0"};
    for (String condition : hold) {
      Bench.exits("int main(void) { return " + condition + "; }", 1);
    }
  }

  /** "/ and % cut towards 0, trap 3 for 0 (the least value / -1 is itself, % 0)" */
  private static void divisions() {
    for (String type : new String[] {"int", "unsigned", "long long", "unsigned long long", "char", "short", "unsigned char"}) {
      for (String sign : new String[] {"/", "%"}) {
        Bench.traps(type + " x = 5, z; int main(void) {\nx " + sign + " z; }", 3, 2);
        Bench.traps(type + " x = 5, z; int main(void) {\nx " + sign + "= z; }", 3, 2);
        Bench.traps(type + " x, z; int main(void) {\nx " + sign + " z; }", 3, 2);
        Bench.exits(type + " x = 7, y = 2; int main(void) { return x / y * 10 + x % y; }", 31);
      }
    }
    Bench.exits("int x = -2147483647 - 1, y = -1; int main(void) { return x / y == x && x % y == 0 && (x /= y) == -2147483647 - 1 && (x %= y) == 0; }", 1);
    Bench.exits("long long x = -9223372036854775807ll - 1, y = -1; int main(void) { return x / y == x && x % y == 0; }", 1);
    Bench.exits("int x = -7, y = 2; int main(void) { return x / y == -3 && x % y == -1 && x / -y == 3 && x % -y == -1 && -x / -y == -3 && -x % -y == 1; }", 1);
    Bench.exits("int main(void) { return 1.0 / 0 > 1e308 && -1.0 / 0 < -1e308 && 1.0f / 0 > 1e38; }", 1);
    Bench.traps("int z; int main(void) {\n1 / (z * 1ll); }", 3, 2);
  }

  /** "A shift by a count below 0 or not below the width: trap 4; >> keeps the sign of types with sign." */
  private static void shifts() {
    String[][] widths = {{"int", "31", "32"}, {"unsigned", "31", "32"}, {"char", "31", "32"}, {"unsigned short", "31", "32"}, {"long long", "63", "64"}, {"unsigned long long", "63", "64"}};
    for (String[] width : widths) {
      for (String sign : new String[] {"<<", ">>"}) {
        Bench.exits(width[0] + " x = 1; int n = " + width[1] + "; int main(void) { x " + sign + " n; x " + sign + " (n - n); return 3; }", 3);
        for (String count : new String[] {width[2], "-1", "2147483647", "-2147483647 - 1"}) {
          Bench.traps(width[0] + " x = 1; int n = " + count + "; int main(void) {\nx " + sign + " n; }", 4, 2);
          Bench.traps(width[0] + " x = 1; int n = " + count + "; int main(void) {\nx " + sign + "= n; }", 4, 2);
        }
        Bench.traps(width[0] + " x = 1; long long n = 4294967296ll; int main(void) {\nx " + sign + " n; }", 4, 2);
        Bench.traps(width[0] + " x = 1; unsigned long long n = 18446744073709551615u; int main(void) {\nx " + sign + " n; }", 4, 2);
        Bench.traps(width[0] + " x = 1; unsigned n = 4294967295u; int main(void) {\nx " + sign + " n; }", 4, 2);
      }
    }
    Bench.exits("int main(void) { return -1 >> 31 == -1 && -8 >> 1 == -4 && 1 << 31 < 0 && 1u << 31 > 0 && 4294967295u >> 31 == 1 && -1ll >> 63 == -1 && 18446744073709551615u >> 63 == 1 && (char)-2 >> 1 == -1 && 1ll << 63 < 0 && 1ll << 32 == 4294967296; }", 1);
    Bench.exits("int main(void) { return sizeof(1 << 1ll) + sizeof(1ll << 1) * 2 + sizeof((char)1 << (char)1); }", 4 + 16 + 4);
  }

  /** "Floating arithmetic is that of the type; trap 6 if the result is no number." */
  private static void floatingTraps() {
    for (String type : new String[] {"float", "double"}) {
      String d = type + " i = 1e30" + (type.equals("float") ? "f" : "") + ", z, n; int main(void) { for (int k = 0; k < 9; k++) i *= i; n = -i;\n";
      for (String bad : new String[] {"i - i;", "i + n;", "n + i;", "n - n;", "i * z;", "z * i;", "n * z;", "i / i;", "i / n;", "z / z;", "i -= i;", "i += n;", "z *= i;", "z /= z;", "-z / z;", "n * -z;", "0 * i;", "i * 0;"}) {
        Bench.traps(d + bad + " return 3; }", 6, 2);
      }
      for (String good : new String[] {"i + i;", "n + n;", "i - n;", "n - i;", "i * i;", "i * n;", "z / i;", "i / z;", "1 / z;", "i * 2;", "i + 1;", "i - 1;", "z * 1;", "z + z;", "z - z;", "-i;", "i == i;", "i < n;", "i == n;", "i++;", "--n;", "i != i;", "i && n;"}) {
        Bench.exits(d + good + " return 3; }", 3);
      }
    }
    // "A float or double in memory that is no number: trap 6 where it is read."
    Bench.traps("union { int i; float f; } u = { 0x7f800001 }; int main(void) {\nu.f; }", 6, 2);
    Bench.traps("union { int i; float f; } u = { -1 }; int main(void) {\nreturn u.f == 0; }", 6, 2);
    Bench.exits("union { int i; float f; } u = { 0x7f800000 }, v = { 0xff800000 }; int main(void) { return u.f > 1e38 && v.f < -1e38; }", 1);
    Bench.traps("union { long long i; double f; } u = { 0x7ff0000000000001 }; int main(void) {\nu.f; }", 6, 2);
    Bench.traps("union { long long i; double f; } u = { -1 }; int main(void) {\nu.f++; }", 6, 2);
    Bench.exits("union { long long i; double f; } u = { 0x7ff0000000000000 }; int main(void) { return u.f > 1e308; }", 1);
    Bench.exits("union { int i; float f; } u = { -1 }, w; int main(void) { w = u; &u.f; sizeof u.f; u.f = 2; return u.f; }", 2);
    Bench.traps("union { int i; float f; } u = { -1 }; int main(void) {\nu.f += 1; }", 6, 2);
    Bench.exits("int main(void) { return 16777216.0f + 1 == 16777216.0f && 16777216.0 + 1 == 16777217 && 0.1f + 0.2 != 0.3 && 1.0f / 3 * 3 == 1.0f && sizeof(1.0f * 2) == 4 && sizeof(1.0f * 2.0) == 8 && 1e38f * 10 > 1e308; }", 1);
  }

  /** "pointer + integer: the address and the integer (cast to int) times the size, 32 bits; pointer - pointer: the difference as an int, divided by the size, cut. Pointers compare without sign." */
  private static void pointers() {
    String[] hold = {"(char *)0 - 1 == (char *)4294967295u", "(char *)4294967295u + 1 == 0", "(int *)0 + 1073741824 == 0", "(int *)4 + 4294967295u == 0", "(int *)4 + 4294967297ll == (int *)8", "(char *)5 + -1 == (char *)4", "-1 + (char *)5 == (char *)4", "(char *)0 - -5 == (char *)5",
        "(int *)7 - (int *)0 == 1", "(int *)0 - (int *)7 == -1", "(char *)0x80000000 - (char *)0 == -2147483647 - 1", "(char *)0 - (char *)0x80000000 == -2147483647 - 1", "(int *)0xfffffffc - (int *)0 == -1", "(struct { int a[3]; } *)0 + 2 == (void *)24",
        "(char *)0x80000000 > (char *)0x7fffffff", "(char *)-1 > (char *)0", "(char *)0 < (char *)1", "(char *)1 >= (char *)1", "!((char *)1 < (char *)1)", "(char *)-1 != 0", "(char *)4294967296ll == 0", "&((int *)8)[-1] == (int *)4", "&((int *)8)[4294967295u] == (int *)4",
        "&1[(int *)8] == (int *)12"};
    for (String condition : hold) {
      Bench.exits("int main(void) { return " + condition + "; }", 1);
    }
    Bench.exits("int a[4], *p = a; int main(void) { p += 3; p -= 1; p++; --p; return p - a; }", 2);
    Bench.exits("char *p = (char *)-1; int main(void) { p++; if (p) return 1; p--; return p == (char *)4294967295u ? 2 : 3; }", 2);
    Bench.exits("int *p; int main(void) { p += 4294967297ll; return p == (int *)4; }", 1);
  }

  /** "if 1000 calls are active, trap 2"; "Active calls count main and functions called from initialisers or by the library." */
  private static void thousandCalls() {
    String f = "int f(int n) { return n == 0 ? 0 :\nf(n - 1); }\n";
    new Bench().source(f + "int main(void) { return f(998); }").runs("1000 active calls", 100000, 0, 0);
    Bench b = new Bench().source(f + "int main(void) { return f(999); }").runs("1001", 100000, 2, 1);
    Bench.due("steps: main and its return, 999 calls and theirs", b.x.steps(), 2 + 2 * 999);
    new Bench().source(f + "int x = f(999);\n" + MAIN).runs("1000 from an initialiser", 100000, 0, 0);
    new Bench().source(f + "int x = f(1000);\n" + MAIN).runs("1001 from an initialiser", 100000, 2, 1);
    String q = f + "int n; int c(const void *a, const void *b) { return f(n); }\n";
    new Bench().source(q + "int main(void) { n = 997; qsort(&n + 1, 2, 1, c); }").runs("1000 from qsort", 100000, 0, 0);
    new Bench().source(q + "int main(void) { n = 998; qsort(&n + 1, 2, 1, c); }").runs("1001 from qsort", 100000, 2, 1);
    new Bench().source(f + "void e(void) { f(998); } int main(void) { atexit(e); return 0; }").runs("1000 at the end", 100000, 0, 0);
    new Bench().source(f + "void e(void) { f(999); } int main(void) { atexit(e); return 0; }").runs("1001 at the end", 100000, 2, 1);
    // At the end there are none, however deep exit was called.
    String e = "int n; void e(void) { n = f(998) + 7; } void g(int k) { if (k == 0) exit(3); g(k - 1); }\n";
    b = new Bench().source(f + e + "int main(void) { atexit(e); g(998); }").runs("exit in the 1000th", 100000, 0, 0);
    Bench.due("exit code", b.x.exitCode(), 3);
    Bench.due("what was called at the end", b.x.memory(1024), 7);
    // Library functions are no active calls.
    new Bench().source("int f(int n) { return n == 0 ? abs(-3) : f(n - 1); }\nint main(void) { return f(998); }").runs("the library in the 1000th", 100000, 0, 0);
    // Trap 2 is looked at ahead of the step.
    b = new Bench().source(f + "int main(void) { return f(999); }");
    b.x.compile();
    Bench.due("without fuel for the 1001st", b.x.run(2 + 2 * 999), 2);
    Bench.due("without fuel for the statement before it", b.x.run(1 + 2 * 999), 9);
  }

  /** "the frame is made: trap 2 if it would begin below the heap's end" */
  private static void stackMeetsHeap() {
    // The heap is at 240000, so 22144 bytes are left.
    String heap = "char heap[238976];\n";
    Bench b = new Bench().source(heap + "int main(void) { char a[22144]; return 0; }").runs("a frame down to the heap's end", 9, 0, 0);
    Bench.due("lowest", b.x.lowest(), 240000);
    b = new Bench().source(heap + "int main(void) { char a[22145]; return 0; }").runs("one byte more", 9, 2, 0);
    Bench.due("lowest", b.x.lowest(), 262144);
    Bench.due("no step", b.x.steps(), 0);
    b = new Bench().source(heap + "int f(void) { char a[22136]; return 0; } int main(void) { int x;\nreturn f(); }").runs("a second frame", 9, 0, 0);
    Bench.due("lowest", b.x.lowest(), 240000);
    b = new Bench().source(heap + "int f(void) { char a[22137]; return 0; } int main(void) { int x;\nreturn f(); }").runs("a second frame too far", 9, 2, 3);
    Bench.due("lowest", b.x.lowest(), 262136);
    Bench.due("steps", b.x.steps(), 2);
    // The heap's end counts, not its beginning.
    new Bench().source("int f(void) { char a[261088]; return 0; } int main(void) { malloc(8); return f(); }").runs("behind a block", 9, 0, 0);
    new Bench().source("int f(void) { char a[261112]; return 0; } int main(void) { malloc(8); return f(); }").runs("it would begin in a block", 9, 2, 1);
    new Bench().source("int f(void) { char a[261104]; return 0; } int main(void) { malloc(8); return f(); }").runs("right behind the block", 9, 0, 0);
    // The stack's end is as before behind a call.
    b = new Bench().source(heap + "int f(void) { char a[20000]; return 0; } int main(void) { f(); f(); f(); return 0; }").runs("one after the other", 99, 0, 0);
    Bench.due("lowest", b.x.lowest(), 262144 - 20000);
  }

  /** "The places of the arguments behind ... and the frame are looked at together before anything is put in (below 0 is trap 2 too)." */
  private static void placesBehindTheDots() {
    String heap = "char heap[238976]; int f(int n, ...) { char a[22108]; return 0; } int g(int n, ...) { return 0; } ";
    Bench b = new Bench().source(heap + "int main(void) {\nf(1, 2, 3, 4, 5); return 0; }").runs("down to the heap's end", 9, 0, 0);
    Bench.due("lowest", b.x.lowest(), 240000);
    b = new Bench().source(heap + "int main(void) {\nf(1, 2, 3, 4, 5, 6); return 0; }").runs("one place more", 9, 2, 2);
    Bench.due("nothing is put in", b.x.memory(262136) | b.x.memory(262104), 0);
    Bench.due("lowest", b.x.lowest(), 262144);
    b = new Bench().source("int g(int n, ...) { char a[262128]; return 0; } int main(void) {\ng(1, 2, 3); return 0; }").runs("below 0", 9, 2, 2);
    b = new Bench().source("int f(int a, ...) { return 0; } int main(void) { f(1, 2, 3ll, 'c', 0.5f, \"x\", (char)-1, 4294967295u); }").runs("places", 9, 0, 0);
    int at = 262144 - 7 * 8;
    int[] due = {2, 0, 3, 0, 'c', 0, 0, 0x3fe00000, 1024, 0, -1, 0, -1, 0};
    for (int i = 0; i < due.length; i++) {
      Bench.due("place " + i / 2, b.x.memory(at + 4 * i), due[i]);
    }
    Bench.due("lowest", b.x.lowest(), at - 8);
    // What stands behind the ... of the library's functions has places too, for the time of the call.
    String small = "char heap[238960]; int main(void) { char a[22120];\n";
    b = new Bench().source(small + "printf(\"\", 1, 2, 3); return 0; }").runs("the library's places", 9, 0, 0);
    Bench.due("lowest", b.x.lowest(), 240000);
    b = new Bench().source(small + "printf(\"\", 1, 2, 3, 4); return 0; }").runs("one more", 9, 2, 2);
    Bench.due("lowest", b.x.lowest(), 240024);
    for (String call : new String[] {"fprintf(stdout, \"\", 1, 2, 3, 4)", "sprintf(a, \"\", 1, 2, 3, 4)", "scanf(\"\", a, a, a, a)", "sscanf(\"\", \"\", a, a, a, a)", "fprintf(stdin, \"\", 1, 2, 3, 4)"}) {
      new Bench().source(small + call + "; return 0; }").runs(call, 9, 2, 2);
    }
    b = new Bench().source("int main(void) { fprintf(stdin, \"\", 1); return 0; }").runs("places ahead of the stream", 9, 1, 1);
    Bench.due("lowest has them", b.x.lowest(), 262136);
    b = new Bench().source("int main(void) { printf(\"a\"); return 0; }").runs("none", 9, 0, 0);
    Bench.due("lowest", b.x.lowest(), 262144);
    Bench.exits("int f(int n, ...) { va_list a; va_start(a, n); printf(\"%d\", 3); return va_arg(a, int); } int main(void) { return f(1, 7); }", 7);
  }

  /** "Calls that answer structs in initialisers of file-scope and static objects have their places in an INITIAL FRAME .. made before the first initialisation and gone before main" */
  private static void initialFrame() {
    String s = "struct s { int a[5]; }; struct s f(int n) { struct s r; r.a[0] = n; return r; }\n";
    Bench b = new Bench().source(s + "int x = f(3).a[0]; struct s y = f(4); int main(void) { static int z = f(5).a[0]; return x * 16 + y.a[0] + z; }").runs("an initial frame", 99, 0, 0);
    Bench.due("exit code", b.x.exitCode(), 57);
    Bench.due("three places of 20, and the frame of f", b.x.lowest(), 262144 - 64 - 24);
    Bench.due("the first place", b.x.memory(262144 - 64), 3);
    Bench.due("the second", b.x.memory(262144 - 44), 4);
    Bench.due("the third", b.x.memory(262144 - 24), 5);
    b = new Bench().source("struct s { int a[5]; }; extern struct s k; struct s f(int n) { return k; } struct s k; int x = 1; int main(void) { static int z = sizeof f(5); return 0; }").runs("under sizeof", 99, 0, 0);
    Bench.due("its place is there", b.x.lowest(), 262144 - 24);
    b = new Bench().source("char heap[238972]; struct s { char a[22144]; } f(void); int x = sizeof f(); struct s f(void) { struct s r; return r; }\n" + MAIN).runs("it fits", 99, 0, 0);
    Bench.due("lowest", b.x.lowest(), 240000);
    b = new Bench().source("char heap[238972]; struct s { char a[22145]; } f(void); int x = sizeof f(); struct s f(void) { struct s r; return r; }\n" + MAIN).runs("it does not fit", 99, 2, 0);
    Bench.due("no steps", b.x.steps(), 0);
    // Behind the initialiser of a static object the places are the function's again.
    Bench.exits(s + "int main(void) { static int q = 5, r = f(1).a[0]; int k = 9; int y = f(3).a[0]; return y * 20 + k + q + r; }", 75);
    Bench.exits(s + "int main(void) { extern int q = 5; int k = 9; int y = f(3).a[0]; return y * 20 + k + q; } int q;", 74);
    b = Bench.exits(s + "int main(void) { extern int q = f(6).a[0]; return q; } int q;", 6);
    Bench.due("a place of 20, and the frame of f", b.x.lowest(), 262144 - 24 - 24);
    Bench.due("the place", b.x.memory(262144 - 24), 6);
    // "gone before main": main's frame lies where it was.
    b = Bench.exits(s + "int x = f(3).a[0]; int main(void) { int y = 5; return (int)&y == 262136; }", 1);
    Bench.due("made 0 again, and y", b.x.memory(262136), 5);
    // "laid out like a function's": each place where its alignment divides.
    b = new Bench().source("struct c { char a; } c(void) { struct c r = { 7 }; return r; } struct i { int a; } i(void) { struct i r = { 9 }; return r; } int a = c().a, b = i().a, d = c().a, e = i().a, g = c().a, h = i().a; int main(void) { return a + b + d + e + g + h; }").runs("places aligned", 99, 0, 0);
    Bench.due("exit code", b.x.exitCode(), 48);
    Bench.due("six places and a frame", b.x.lowest(), 262144 - 24 - 8);
    for (int k = 0; k < 6; k++) {
      Bench.due("place " + k, b.x.memory(262144 - 24 + 4 * k), k == 5 ? 9 : k % 2 == 0 ? 7 : 9);
    }
    Bench.due("it counts as a frame", b.x.about(4), 24);
    // "A frame above 262144 bytes is fault 5 at the function's last token (the initial frame: at the unit's)."
    String half = "struct s { char a[131072]; } g; struct s f(void) { return g; } struct t { char a; } h(void) { struct t r; return r; } int x = f().a[0], y = f().a[1];";
    b = new Bench().source(half + "\nint main(void) { return 0;\n}").runs("just not too great, but there is no room", 99, 2, 0);
    Bench.due("no steps", b.x.steps(), 0);
    Bench.due("the greatest frame", b.x.about(4), 262144);
    Bench.faults(half + "\nint z = h().a;\nint main(void) { return 0;\n}", 5, 4);
    Bench.faults(half + "\nint main(void) { static int z = sizeof h(); return 0;\n}", 5, 3);
    // What stands behind a call under sizeof is untouched by the place of its answer.
    Bench.exits("struct s { int a; } f(int n) { struct s r = { n }; return r; } int g = 5; struct s y = f(1); int x = sizeof f(2) + g++; int main(void) { return x * 10 + g; }", 96);
    Bench.exits("struct s { int a; } f(int n) { struct s r = { n }; return r; } int main(void) { int g = 5; struct s y = f(1); int x = sizeof f(2) + g++; return x * 10 + g; }", 96);
    Bench.exits("struct s { int a; } f(void) { struct s r = { 3 }; return r; } int g(void) { char c[8]; return f().a; } int x = f().a, y = g(); int main(void) { return x + y; }", 6);
  }

  /** "the arguments, each with a 0 behind, lie from the heap's beginning on in order, \"c\" before them; behind them at the next multiple of 4 argv's pointers and a 0; the heap then begins at the next multiple of 16." */
  private static void argumentsOfMain() {
    String main = "int main(int argc, char **argv) { return argc; }";
    for (int count = 0; count <= 3; count++) {
      for (int length = 0; length < 9; length++) {
        Bench b = new Bench();
        for (int i = 0; i < count; i++) {
          b.argument("abcdefghij".substring(0, length));
        }
        b.source(main).runs("arguments", 99, 0, 0);
        Bench.due("argc", b.x.exitCode(), count + 1);
        int row = (1024 + 2 + count * (length + 1) + 3) / 4 * 4;
        Bench.due("c", b.x.memory(1024) & 65535, 'c');
        Bench.due("argv 0", b.x.memory(row), 1024);
        for (int i = 0; i < count; i++) {
          Bench.due("argv " + i, b.x.memory(row + 4 * (i + 1)), 1026 + i * (length + 1));
        }
        Bench.due("a 0", b.x.memory(row + 4 * (count + 1)), 0);
        Bench.due("heapEnd", b.x.heapEnd(), (row + 4 * (count + 2) + 15) / 16 * 16);
      }
    }
    Bench b = new Bench().argument("x").source("int main(void) { return 0; }").runs("main without parameters", 99, 0, 0);
    Bench.due("nothing is laid out", b.x.memory(1024), 0);
    Bench.due("heapEnd", b.x.heapEnd(), 1024);
    b = new Bench().argument("").argument("a\nb").source("int main(int c, char **v) { return v[1][0] + v[2][1] + (v[3] == 0) + v[0][0] - 'c'; }").runs("bytes as they are", 99, 0, 0);
    Bench.due("exit code", b.x.exitCode(), 11);
    b = new Bench().argument("xyz").source("char *p; int main(int c, char **v) { static int n; if (n++ == 0) return main(5, 0) + 1; return c; }").runs("the program may call main", 99, 0, 0);
    Bench.due("exit code", b.x.exitCode(), 6);
  }

  /** "if they do not fit at 240000 or below: outcome 2, line 0, no steps" */
  private static void argumentsThatDoNotFit() {
    // "c" takes 2 bytes, two pointers 8, so that a heap at 239984 is just enough, and one at 240000 is not.
    for (int[] row : new int[][] {{238960, 0}, {238961, 2}, {238976, 2}}) {
      Bench b = new Bench().source("char heap[" + row[0] + "]; int main(int c, char **v) { return 0; }").runs("heap of " + row[0], 99, row[1], 0);
      Bench.due("steps", b.x.steps(), row[1] == 0 ? 2 : 0);
      Bench.due("lowest", b.x.lowest(), row[1] == 0 ? 262136 : 262144);
    }
    Bench b = new Bench().argument("123").source("char heap[238960]; int main(int c, char **v) { return 0; }").runs("an argument that does not fit", 99, 2, 0);
    b = new Bench().argument("12").source("char heap[238944]; int main(int c, char **v) { return 0; }").runs("an argument that fits", 99, 0, 0);
    Bench.due("heapEnd", b.x.heapEnd(), 239968 + 32);
    b = new Bench().argument("1".repeat(14)).source("char heap[238944]; int main(int c, char **v) { return 0; }").runs("14 bytes", 99, 0, 0);
    Bench.due("heapEnd", b.x.heapEnd(), 240000);
    b = new Bench().argument("1".repeat(18)).source("char heap[238944]; int main(int c, char **v) { return 0; }").runs("18 bytes", 99, 2, 0);
    // First of all: no initialiser has been done.
    b = new Bench().source("int x = 5; char heap[238956]; int main(int c, char **v) { return 0; }").runs("just enough", 99, 0, 0);
    b = new Bench().source("int x = 5; char heap[238957]; int main(int c, char **v) { return 0; }").runs("not enough", 99, 2, 0);
    Bench.due("x", b.x.memory(1024), 0);
  }

  private static void steps(String body, int steps) {
    String source = "int k; int f(void) { return 1; } int main(void) { " + body + " }";
    Bench b = new Bench().source(source).runs(body, 100000, 0, 0);
    Bench.due("steps of " + body, b.x.steps(), steps);
    Bench.due("with just that fuel " + body, b.x.run(steps), 0);
    Bench.due("with one less " + body, b.x.run(steps - 1), 9);
    Bench.due("steps then " + body, b.x.steps(), steps - 1);
  }

  /** "STEPS: each statement when it is begun, but { }, labels, case, default and the empty one; each time the condition of a loop is looked at (also one left out); each call of a function of the unit" */
  private static void steps() {
    steps("", 1);
    steps(";", 1);
    steps("{ } { ; { } }", 1);
    steps("k;", 2);
    steps("k; k, k;", 3);
    steps("int a = 1, b = 2;", 1);
    steps("int a = f();", 3);
    steps("return 0;", 2);
    steps("return f() + f();", 6);
    steps("if (0) k;", 2);
    steps("if (1) k;", 3);
    steps("if (1) ; else k;", 2);
    steps("if (0) ; else k;", 3);
    steps("if (0) ; else if (1) k;", 4);
    steps("while (0) k;", 3);
    steps("while (k < 3) k++;", 2 + 4 + 3);
    steps("while (k < 3) { k++; k; }", 2 + 4 + 6);
    steps("do ; while (k++ < 3);", 2 + 4);
    steps("do k; while (0);", 4);
    steps("for (;;) break;", 4);
    steps("for (k = 0; k < 2; k++) ;", 2 + 3);
    steps("for (int i = 0; i < 2; i++) k;", 2 + 3 + 2);
    steps("for (; k < 2; ) k++;", 2 + 3 + 2);
    steps("for (k = 0; k < 2; k++) continue;", 2 + 3 + 2);
    steps("while (k++ < 2) continue;", 2 + 3 + 2);
    steps("do continue; while (k++ < 2);", 2 + 3 + 3);
    steps("switch (1) { case 1: k; default: k; }", 4);
    steps("switch (1) { case 1: break; default: k; }", 3);
    steps("switch (2) { case 1: k; }", 2);
    steps("switch (2) { k; case 1: default: ; }", 2);
    steps("a: b: k;", 2);
    steps("goto a; k; a: ;", 2);
    steps("a: if (k++ < 2) goto a;", 1 + 3 + 2);
    steps("f();", 4);
    steps("f; sizeof f();", 3);
    steps("printf(\"\"); abs(1);", 3);
    steps("static int z = 1; z;", 2);
    steps("0 && f(); 1 || f(); 1 ? 0 : f();", 4);
    Bench b = new Bench().source("int f(void) { return 3; } int x = f(), y = 5;\n" + MAIN).runs("steps before main", 99, 0, 0);
    Bench.due("steps", b.x.steps(), 4);
    b = new Bench().source("void e(void) { } int main(void) { atexit(e); atexit(e); return 0; }").runs("steps behind main", 99, 0, 0);
    Bench.due("steps", b.x.steps(), 1 + 3 + 2);
    Bench.due("not enough for the last", b.x.run(5), 9);
    Bench.due("line", b.x.trapLine(), 0);
    Bench.due("no exit code", b.x.exitCode(), -1);
  }

  private static void endsAt(String source, int fuel, int outcome, int line) {
    Bench b = new Bench().source(source);
    Bench.due("compile " + source.replace("\n", "\\n"), b.x.compile(), 0);
    Bench.due("run " + fuel + " " + source.replace("\n", "\\n"), b.x.run(fuel), outcome);
    Bench.due("line " + fuel + " " + source.replace("\n", "\\n"), b.x.trapLine(), line);
  }

  /** "The LINE of a trap is that of the first token of the innermost statement or declaration that was being done"; "outcomes where no statement or declaration is being done .. at line 0; in a loop's condition at the loop's line". */
  private static void linesOfOutcomes() {
    String z = "int z; int g(int n) { return n; }\nint main(void) {\n";
    endsAt(z + "while\n(1 / z)\n;\n}", 99, 3, 3);
    endsAt(z + "do\n;\nwhile\n(1 / z);\n}", 99, 3, 3);
    endsAt(z + "for\n(1 / z;\n;\n) ; }", 99, 3, 3);
    endsAt(z + "for\n(;\n1 / z;\n) ; }", 99, 3, 3);
    endsAt(z + "for\n(;\n;\n1 / z) ; }", 99, 3, 3);
    endsAt(z + "for\n(;\n;\n1 / z)\nz; }", 99, 3, 3);
    endsAt(z + "for\n(\nint i = 1 / z;\n;\n) ; }", 99, 3, 5);
    endsAt(z + "for\n(\nint i = 0;\ni < 1 / z;\n) ; }", 99, 3, 3);
    endsAt(z + "while\n(1)\n{\n1 / z; } }", 99, 3, 6);
    endsAt(z + "if\n(1 / z)\n; }", 99, 3, 3);
    endsAt(z + "if\n(1)\n1 / z; }", 99, 3, 5);
    endsAt(z + "if\n(0)\n;\nelse\n1 / z; }", 99, 3, 7);
    endsAt(z + "switch\n(1 / z) ; }", 99, 3, 3);
    endsAt(z + "switch\n(1) {\ncase 1:\n1 / z; } }", 99, 3, 6);
    endsAt(z + "l:\n1 / z; }", 99, 3, 4);
    endsAt(z + "return\n1\n/ z; }", 99, 3, 3);
    endsAt(z + "int a =\n1, b =\n1 / z; }", 99, 3, 3);
    endsAt(z + "int a[2] = { 1,\n1 / z }; }", 99, 3, 3);
    endsAt(z + "z;\n{\nint a = 0;\n1 / z; } }", 99, 3, 6);
    endsAt(z + "g(\n1 / z); }", 99, 3, 3);
    endsAt("int z;\nint a =\n1 / z;\nint main(void) { return 0; }", 99, 3, 2);
    endsAt("int z;\nint a[2] = {\n1 / z };\nint main(void) { return 0; }", 99, 3, 2);
    endsAt("int z;\nint main(void) {\nstatic int b =\n1 / z; return 0; }", 99, 3, 3);
    // Behind what was inside, the line is that of what is around again.
    endsAt(z + "while (1 / (1 - z)) {\nz++;\nz; }\n}", 99, 3, 3);
    endsAt(z + "for (;; 1 / z) {\n; }\n}", 99, 3, 3);
    endsAt(z + "z = g(\n0) + 1 / z; }", 99, 3, 3);
    endsAt(z + "do {\nz;\n} while (1 / z);\n}", 99, 3, 3);
    // Fuel: the statement whose step does not happen counts as being done.
    endsAt("int main(void)\n{ return 0; }", 0, 9, 0);
    endsAt("int main(void) {\nint a;\na;\na; }", 1, 9, 3);
    endsAt("int main(void) {\nint a;\na;\na; }", 2, 9, 4);
    endsAt("int main(void) {\nwhile (1)\n;\n}", 1, 9, 2);
    endsAt("int main(void) {\nwhile (1)\n;\n}", 2, 9, 2);
    endsAt("int main(void) {\nwhile (1)\nmain;\n}", 3, 9, 3);
    endsAt("int main(void) {\nwhile (1)\nmain;\n}", 4, 9, 2);
    endsAt("int main(void) {\ndo\nmain;\nwhile (1);\n}", 3, 9, 2);
    endsAt("int main(void) {\nfor (;;)\nmain;\n}", 1, 9, 2);
    endsAt("int main(void) {\nfor (;;)\nmain;\n}", 3, 9, 3);
    endsAt("int f(void) {\nreturn 1; }\nint main(void) {\nreturn\nf(); }", 2, 9, 4);
    endsAt("int f(void) {\nreturn 1; }\nint main(void) {\nreturn\nf(); }", 3, 9, 2);
    endsAt("int f(void) {\nreturn 1; }\nint x =\nf();\nint main(void) {\nreturn 0; }", 0, 9, 3);
    endsAt("int f(void) {\nreturn 1; }\nint x =\nf();\nint main(void) {\nreturn 0; }", 1, 9, 2);
    endsAt("int f(void) {\nreturn 1; }\nint x =\nf();\nint main(void) {\nreturn 0; }", 2, 9, 0);
    endsAt("void e(void) {\n1; }\nint main(void) {\natexit(e); }", 2, 9, 0);
    endsAt("void e(void) {\n1; }\nint main(void) {\natexit(e); }", 3, 9, 2);
    endsAt("int main(void) {\nabort(); }", 99, 10, 2);
    endsAt("int main(void) {\nwhile (1)\nputs(\"\"); }", 100000, 11, 3);
    endsAt("int main(void) {\nint x = 5;\nexit(3); }", 99, 0, 0);
    endsAt("int main(void) {\nreturn 3; }", 99, 0, 0);
    endsAt("void e(void) {\n1; }\nint main(void) {\natexit(e);\nexit(1); }", 3, 9, 0);
    endsAt("void e(void) {\n1; }\nint main(void) {\natexit(e); atexit(e);\nexit(1); }", 6, 9, 0);
    endsAt("void e(void) {\n1; }\nint main(void) {\natexit(e); atexit(e);\nexit(1); }", 7, 9, 2);
    endsAt("int f(void) {\natexit(0);\nexit(1); }\nint x =\nf();\nint main(void) {\nreturn 0; }", 99, 7, 0);
    // Trap 8 at the line of the function's last token.
    endsAt("int f(void) {\n;\n\n}\nint main(void) {\nf(); }", 99, 8, 4);
    endsAt("int z; int f(void) {\nif (z) return 1;\n\n}\nint main(void) {\nreturn f(); }", 99, 8, 4);
    new Bench().header("h", "\n\nint z; int f(void) {\n1 / z; return 0; }\n").source("#include \"h\"\nint main(void) { return f(); }").runs("a line of a header", 99, 3, 4);
  }

  /** "An answer is cast to the function's type; a function that is not void and comes to its end without return: trap 8 (main: 0)." */
  private static void answers() {
    Bench.exits("char f(void) { return 300; } int main(void) { return f() == 44; }", 1);
    Bench.exits("unsigned char f(void) { return -1; } int main(void) { return f() == 255; }", 1);
    Bench.exits("float f(void) { return 0.1; } int main(void) { return f() == 0.1f; }", 1);
    Bench.exits("int f(void) { return 2.9; } int main(void) { return f(); }", 2);
    Bench.exits("long long f(void) { return -1; } unsigned g(void) { return -1; } int main(void) { return f() == -1ll && g() == 4294967295u; }", 1);
    Bench.exits("int main(void) { }", 0);
    Bench.exits("int main(int c, char **v) { if (c > 1) return 5; }", 0);
    Bench.exits("void f(void) { } void g(void) { return; } int main(void) { f(); g(); return 3; }", 3);
    Bench.traps("int f(void) { } int main(void) { f(); return 3; }", 8, 1);
    Bench.traps("double f(int n) { if (n) return 1; } int main(void) { f(1); f(0); return 3; }", 8, 1);
    Bench.traps("struct s { int a; } f(void) { } int main(void) { f(); return 3; }", 8, 1);
    // Also when the program itself calls main.
    Bench.exits("int n; int main(void) { if (n++ == 0) return main() + 5; }", 5);
  }

  /** "function (by its address: trap 7 if it is not one of the unit, or its type is not that of the pointer)"; "Trap 7 comes when the function's value is known, before the arguments." */
  private static void functionAddresses() {
    String f = "int p(int n) { putchar('x'); return n; } int f(int a) { return a; } int g(int a, int b) { return a + b; } void v(void) { } int none(int);\nint main(void) { int (*q)(int);\n";
    for (String bad : new String[] {"0", "1", "0x40000001", "0x40000008", "0x3ffffff0", "0x40000060", "0xc0000000", "-16", "1024", "(int)g", "(int)v", "(int)&q"}) {
      Bench b = Bench.traps(f + "q = (int (*)(int))(" + bad + ");\nq(p(1)); }", 7, 4);
      Bench.due("before the arguments", b.x.written(2), 0);
    }
    Bench.exits("int f(int a) { return a; } int main(void) { return ((int (*)(int))0x40000000)(5) + ((int (*)(int))(0x40000010 - 16))(6) + (int)f - 0x40000000; }", 11);
    Bench.exits("int f(int a) { return a; } int g(int a) { return 2 * a; } int main(void) { return ((int (*)(int))((int)f + 16))(5); }", 10);
    Bench.traps("int none(int); int main(void) {\nreturn ((int (*)(int))0x40000000)(5); } int last(void) { return 0; }", 7, 2);
    Bench.traps("int main(void) {\nreturn ((int (*)(int))0x40000010)(5); } int last(void);", 7, 2);
    Bench.traps("int f(int a) { return a; } int main(void) {\nreturn ((unsigned (*)(int))f)(5); }", 7, 2);
    Bench.traps("int f(int a) { return a; } int main(void) {\nreturn ((int (*)(int, ...))f)(5); }", 7, 2);
    Bench.traps("int f(int *a) { return 1; } int main(void) {\nreturn ((int (*)(char *))f)(0); }", 7, 2);
    Bench.exits("enum e { A }; int f(enum e a, const int b, int c[3]) { return b; } int main(void) { int (*q)(int, int, int *) = f; return q(1, 2, 0); }", 2);
    StringBuilder many = new StringBuilder();
    StringBuilder calls = new StringBuilder();
    for (int k = 0; k < 40; k++) {
      many.append("int f").append(k).append("(void) { return ").append(k).append("; } ");
      calls.append(" if (((int (*)(void))(0x40000000 + 16 * ").append(k).append("))() != ").append(k).append(") return ").append(100 + k).append(";");
      calls.append(" if ((*f").append(k).append(")() != ").append(k).append(" || (int)f").append(k).append(" != 0x40000000 + 16 * ").append(k).append(") return ").append(150 + k).append(";");
    }
    Bench.exits(many + "int main(void) {" + calls + " return 3; }", 3);
    Bench.traps("void v(int a) { } int main(void) {\natexit((void (*)(void))v);\nreturn 3; }", 7, 0);
    Bench.traps("int main(void) {\natexit(0);\nreturn 3; }", 7, 0);
    Bench.traps("int c(int *a, int *b) { return 0; } int a[2]; int main(void) {\nqsort(a, 2, 4, (int (*)(const void *, const void *))c);\nreturn 3; }", 7, 2);
    Bench.traps("int a[2]; int main(void) {\nqsort(a, 2, 4, 0);\nreturn 3; }", 7, 2);
    Bench.exits("int a[2]; int main(void) { qsort(a, 1, 4, 0); qsort(a, 2, 0, 0); return 3; }", 3);
  }

  /** "switch goes to the case of its value, else to default, else behind." */
  private static void switches() {
    String s = "switch (x) { case 0: return 10; case -1: return 11; case 2147483647: return 12; default: return 13; case 5: ; case 6: return 14; }";
    Object[][] rows = {{"int", "0", 10}, {"int", "-1", 11}, {"int", "2147483647", 12}, {"int", "1", 13}, {"int", "5", 14}, {"int", "6", 14}, {"unsigned", "4294967295u", 11}, {"long long", "4294967296ll", 13}, {"long long", "-1", 11}, {"long long", "4294967295", 13},
        {"unsigned long long", "18446744073709551615u", 11}, {"char", "255", 11}, {"unsigned char", "255", 13}, {"short", "65536", 10}};
    for (Object[] row : rows) {
      Bench.exits("int main(void) { " + row[0] + " x = " + row[1] + "; " + s + " }", (Integer) row[2]);
    }
    Bench.exits("int main(void) { switch (3) { case 1: return 1; case 2: return 2; } return 9; }", 9);
    Bench.exits("int main(void) { switch (3) case 3: return 4; return 9; }", 4);
    Bench.exits("int main(void) { switch (3) return 4; return 9; }", 9);
    Bench.exits("struct { int a : 3; } s = { 7 }; int main(void) { switch (s.a) { case -1: return 4; case 7: return 5; } return 9; }", 4);
    Bench.exits("int n = 5; int main(void) { int r = 0; switch (n % 4) { case 0: do { r++; case 3: r++; case 2: r++; case 1: r++; } while (--n > 3); } return r; }", 5);
    Bench.exits("int main(void) { switch (1) { case 2: switch (2) { case 1: return 5; } default: ; } return 6; }", 6);
  }

  /** "In an initialiser { } first all bytes of the object are made 0, then the parts are worked out and put in one by one as written" */
  private static void initialisersAtRunTime() {
    Bench.exits("int main(void) { int a[3] = { 1, 2, 3 }; for (int i = 0; i < 2; i++) { int b[3] = { [1] = i }; b[0] += 5; a[0] += b[0]; } return a[0]; }", 11);
    Bench.exits("int main(void) { int a[3] = { 7, a[0] + 1, a[1] + a[2] }; return a[2]; }", 8);
    Bench.exits("int main(void) { int x = 5; l: { int a[2] = { x, a[0] }; if (x-- > 3) goto l; return a[0] + a[1]; } }", 6);
    Bench.exits("int main(void) { for (int i = 0; i < 3; i++) { int k; if (i == 0) k = 7; if (i == 2) return k; } return 0; }", 7);
    Bench.exits("int n; int f(void) { return ++n; } int main(void) { int a[2] = { [0] = f(), [0] = f(), f() }; return a[0] * 10 + a[1] + n * 100 - 300; }", 23);
    Bench.exits("int main(void) { char a[5] = \"xyzw\"; for (int i = 0; i < 2; i++) { char b[5] = \"ab\"; b[3] = 9; a[0] = b[3] + b[4]; } return a[0]; }", 9);
    Bench.exits("struct s { int a, b, c; }; int main(void) { struct s x = { 1, 2, 3 }; struct s y = { .c = x.a, .a = x.c }; return y.a * 100 + y.b * 10 + y.c - 200; }", 101);
    Bench.exits("struct s { int a[2]; } x = { 5, 6 }; int main(void) { struct { struct s p; int q; } y = { x, 7 }, z = { { { 1 } }, 2 }; return y.p.a[1] * 10 + y.q + z.p.a[1] + z.q; }", 69);
    Bench.exits("int main(void) { goto in; { int a = 9; in: return a; } }", 0);
    Bench.exits("int main(void) { switch (1) { int a = 9; case 1: return a; } }", 0);
    Bench.exits("int main(void) { int r = 0; for (int i = 0; i < 3; i++) { char b[6] = \"ab\"; r += b[2] + b[5]; b[2] = 9; b[5] = 7; } return r; }", 0);
    Bench.exits("int main(void) { int r = 0; for (int i = 0; i < 3; i++) { char b[2][3] = { \"a\", \"b\" }; r += b[0][1] + b[1][2]; b[0][1] = 9; b[1][2] = 7; } return r; }", 0);
    Bench.exits("int main(void) { int r = 0; for (int i = 0; i < 3; i++) { int b[3] = { 1 }; struct { int x, y; } s = { .x = 2 }; r += b[1] + b[2] + s.y; b[2] = 9; s.y = 7; } return r; }", 0);
    Bench.exits("union { int a; char b[4]; } u = { 257 }; int main(void) { return u.b[0] + u.b[1] * 2; }", 3);
    Bench.exits("char s[3] = \"abc\", t[5] = \"abc\"; int main(void) { return s[2] == 'c' && t[3] == 0 && t[4] == 0; }", 1);
    // "a { } inside an initialiser makes nothing 0 by itself", but a string does, behind its bytes.
    Bench.exits("struct s { int a[2], b; } g = { .a[0] = 3, .a = { [1] = 2 }, 1 }; int main(void) { struct s x = { .a[0] = 3, .a = { [1] = 2 }, 1 }; return g.a[0] * 10 + g.a[1] + x.a[0] * 40 + x.a[1] * 4 + x.b; }", 30 + 2 + 120 + 8 + 1);
    Bench.exits("struct t { struct s { int a, b; } s; int c; } y = { .s.b = 4, .s = { 5 }, 6 }; int main(void) { int z[2][2] = { [0][1] = 7, [0] = { 8 }, { 9 } }; return y.s.a * 16 + y.s.b + y.c + z[0][1] + z[0][0] + z[1][0] + z[1][1]; }", 80 + 4 + 6 + 7 + 8 + 9);
    Bench.exits("struct t { struct s { int a, b; } s; } x = { .s.b = 4, .s = {} }; int main(void) { struct t y = { .s.a = 3, .s = {} }, z[1] = { [0].s.b = 5, [0] = {}, }; return x.s.b * 100 + y.s.a * 10 + z[0].s.b - 400; }", 35);
    Bench.exits("struct s { int a, b; } v = { 1 }; struct t { struct s s; } x = { .s.b = 4, .s = v }; int main(void) { struct t y = { .s.b = 4, .s = v }; return x.s.b * 10 + y.s.b + y.s.a; }", 1);
    Bench.exits("struct { char c[4]; } x = { .c[3] = 5, .c = \"a\" }, y = { .c[3] = 6, .c = { 'a' } }; int main(void) { char z[2][3] = { [0][2] = 7, [0] = \"\", [1][2] = 8, [1] = { \"b\" } }; return x.c[3] * 10 + y.c[3] + z[0][2] + z[1][2]; }", 6);
    Bench.exits("union { int i; char c[4]; } x = { .i = -1, .c = { 0 } }, y = { .c[1] = 1, .i = 2 }; int main(void) { return (x.i == -256) * 10 + y.i; }", 12);
    Bench.exits("struct { unsigned a : 4, b : 4; } x = { 15, 15, .a = { 3 } }; int main(void) { return *(int *)&x; }", 0xf3);
    // Without { } the object stays as it is until it gets its worth.
    Bench.exits("int main(void) { int r = 0; for (int i = 0; i < 3; i++) { int x = x + 2; r = x; } return r; }", 6);
    Bench.exits("int main(void) { int r = 0; for (int i = 0; i < 3; i++) { int x = { x + 2 }; r = x; } return r; }", 2);
    Bench.exits("struct s { int a, b; } f(struct s x) { x.a++; x.b += 2; return x; } int main(void) { int r = 0; for (int i = 0; i < 3; i++) { struct s x = f(x); r = x.a * 10 + x.b; } return r; }", 36);
    Bench.exits("struct s { int a, b; } f(struct s x) { x.a++; x.b += 2; return x; } int main(void) { int r = 0; for (int i = 0; i < 3; i++) { struct { struct s y; } x = { f(x.y) }; r = x.y.a * 10 + x.y.b; } return r; }", 12);
    Bench.exits("int main(void) { int r = 0; for (int i = 0; i < 3; i++) { char x[4] = \"ab\"; r = r * 4 + x[2] + x[3]; x[2] = x[3] = 1; } return r; }", 0);
    // Objects of the unit and static ones are initialised in the order of the text.
    Bench.exits("int a = 3; int b = a + 1; int f(void) { static int c = b + 1; return c; } int d = f() + 1; int main(void) { return d; }", 6);
    Bench.exits("int g(void); int d = g(); int g(void) { static int c = 4; return c + 5; } int main(void) { return d; }", 5);
  }

  /** "INTEGERS lie with their lowest byte first; floating ones as their bits." */
  private static void bitsOfNumbers() {
    StringBuilder doubles = new StringBuilder();
    StringBuilder floats = new StringBuilder();
    double d = Math.pow(2, 60);
    float f = (float) Math.pow(2, 60);
    for (int i = 0; i < 60; i++) {
      doubles.append(Long.toHexString(Double.doubleToRawLongBits(d * 1.7))).append(' ');
      floats.append(Integer.toHexString(Float.floatToRawIntBits(f * 1.7f))).append(' ');
      d = d * 0x1p-20;
      f = f * 0.125f;
    }
    Bench b = new Bench().source("double d = 0x1p60, e, g = 1.7; int main(void) { for (int i = 0; i < 60; i++) { e = d * g; printf(\"%llx \", *(long long *)&e); d = d * 0x1p-20; } }").runs("doubles", 100000, 0, 0);
    Bench.due("doubles down to 0", b.wrote(2), doubles.toString());
    b = new Bench().source("float d = 0x1p60f, e, g = 1.7f; int main(void) { for (int i = 0; i < 60; i++) { e = d * g; printf(\"%x \", *(int *)&e); d = d * 0.125f; } }").runs("floats", 100000, 0, 0);
    Bench.due("floats", b.wrote(2), floats.toString());
    // The least normal number, the greatest that is less, the least of all, the greatest of all.
    String[][] some = {{"0x1p-400 * 0x1p-400 * 0x1p-222", "10000000000000"}, {"0x1.ffffffffffffep-340 * 0x1p-340 * 0x1p-343", "fffffffffffff"}, {"0x1p-400 * 0x1p-400 * 0x1p-223", "8000000000000"}, {"0x1p-400 * 0x1p-400 * 0x1p-274", "1"}, {"0x1p-400 * 0x1p-400 * 0x1p-275", "0"},
        {"0x1.8p-390 * 0x1p-400 * 0x1p-284", "2"}, {"0x1.fffffffffffffp348 * 0x1p348 * 0x1p327", "7fefffffffffffff"}, {"0x1.fffffffffffffp348 * 0x1p348 * 0x1p328", "7ff0000000000000"}, {"-0x1p348 * 0x1p348 * 0x1p328", "fff0000000000000"}, {"-0.0", "8000000000000000"}, {"0x1p0", "3ff0000000000000"},
        {"0x1.fffffffffffffp-1", "3fefffffffffffff"}, {"0x1p64", "43f0000000000000"}, {"0x1.fffffffffffffp63", "43efffffffffffff"}, {"0x1p-64", "3bf0000000000000"}, {"0x1.fffffffffffffp-65", "3befffffffffffff"}, {"0x1p128", "47f0000000000000"}, {"0x1p-128", "37f0000000000000"}};
    for (String[] row : some) {
      b = new Bench().source("double d; int main(void) { d = " + row[0] + "; printf(\"%llx\", *(long long *)&d); if (*(double *)&d != " + row[0] + ") return 1; }").runs(row[0], 99, 0, 0);
      Bench.due(row[0], b.wrote(2) + b.x.exitCode(), row[1] + "0");
    }
    String[][] small = {{"0x1p-126f", "800000"}, {"0x1.fffffcp-127f", "7fffff"}, {"0x1p-127f", "400000"}, {"0x1p-148f", "2"}, {"0x1p-149f", "1"}, {"0x1p-150f", "0"}, {"0x1.8p-149f", "2"}, {"0x1.000002p-150f", "1"}, {"0x1.fffffep127f", "7f7fffff"}, {"0x1.ffffffp127f", "7f800000"}, {"-0x1p-149f", "80000001"}, {"-0.0f", "80000000"},
        {"0x1p128f", "7f800000"}, {"0x1.000002p0f", "3f800001"}, {"0x1.000001p0f", "3f800000"}, {"0x1.000003p0f", "3f800002"}};
    for (String[] row : small) {
      b = new Bench().source("float d; int main(void) { d = " + row[0] + "; printf(\"%x\", *(int *)&d); if (*(float *)&d != " + row[0] + ") return 1; }").runs(row[0], 99, 0, 0);
      Bench.due(row[0], b.wrote(2) + b.x.exitCode(), row[1] + "0");
    }
    b = Bench.exits("short s = 0x1234; int i = 0x12345678; long long l = 0x123456789abcdef0; unsigned char c = 0xab; int main(void) { return 0; }", 0);
    Bench.due("short", b.x.memory(1024), 0x1234);
    Bench.due("int", b.x.memory(1028), 0x12345678);
    Bench.due("long long, low", b.x.memory(1032), 0x9abcdef0);
    Bench.due("long long, high", b.x.memory(1036), 0x12345678);
    Bench.due("char", b.x.memory(1040), 0xab);
  }

  /** "va_start makes the variable the address of the first of those places; va_arg reads the type there and adds 8 to the variable; va_end does nothing." */
  private static void lists() {
    String h = "int h(int n, ...) { va_list a = (char *)-1; ";
    Bench.exits(h + "va_start(a, n); char *b = a; int x = va_arg(a, int); int d = a - b; va_end(a); return x + d + (a - b); } int main(void) { return h(1, 5, 6); }", 21);
    Bench.exits(h + "va_start(a, n); va_arg(a, int); va_arg(a, double); return va_arg(a, int); } int main(void) { return h(1, 5, 1.5, 7); }", 7);
    Bench.exits(h + "va_start(a, n); va_arg(a, int); va_start(a, n); return va_arg(a, int); } int main(void) { return h(1, 5, 6); }", 5);
    Bench.exits(h + "va_start(a, n); return va_arg(a, unsigned) == 4294967295u && va_arg(a, int) == -1 && va_arg(a, long long) == 4294967295ll && va_arg(a, unsigned long long) == 5; } int main(void) { return h(1, -1, (char)-1, (unsigned)-1, 5); }", 1);
    Bench.exits(h + "va_start(a, n); return va_arg(a, double) == 0.5 && *va_arg(a, char *) == 'x' && va_arg(a, int (*)(int, ...)) == h; } int main(void) { return h(1, 0.5f, \"x\", h); }", 1);
    Bench.traps(h + "return va_arg(a, int); }\nint main(void) {\nreturn h(1); }", 1, 1);
    Bench.traps("int h(int n, ...) {\nva_list a = (char *)0x01000400;\nreturn va_arg(a, int); } int main(void) { return h(1); }", 1, 3);
    Bench.traps("int h(int n, ...) {\nreturn va_arg(*(va_list *)1020, int); } int main(void) { return h(1); }", 1, 2);
    Bench.traps("int h(int n, ...) {\nva_start(*(va_list *)1020, n); return 0; } int main(void) { return h(1); }", 1, 2);
    Bench.traps("int h(int n, ...) {\nva_start(*(va_list *)262141, n); return 0; } int main(void) { return h(1); }", 1, 2);
    Bench.traps("int h(int n, ...) {\nva_list a = (char *)262141;\nreturn va_arg(a, int); } int main(void) { return h(1); }", 1, 3);
    Bench.exits("int h(int n, ...) { va_list a = (char *)262140;\nva_arg(a, int); return a == (char *)262148; } int main(void) { return h(1); }", 1);
    Bench.traps("int h(int n, ...) { union { long long i; double d; } u = { -1 }; va_list a = (char *)&u;\nva_arg(a, double); return 0; } int main(void) { return h(1); }", 6, 2);
    // Behind the last place lies what lies there.
    Bench.exits(h + "va_start(a, n); va_arg(a, int); return va_arg(a, int); } int main(void) { int x = 9; return h(1, 5); }", 9);
  }

  /** "&& || ?: and , as usual. x++ gives what was there, ++x what is there then." */
  private static void lazy() {
    Bench.exits("int n; int f(void) { n++; return 1; } int main(void) { 0 && f(); 1 || f(); 1 ? 0 : f(); 0 ? f() : 0; sizeof f(); sizeof(f() + 1); return n; }", 0);
    Bench.exits("int n; int f(void) { n++; return 0; } int main(void) { 1 && f(); 0 || f(); 0 ? 0 : f(); 1 ? f() : 0; f(), f(); return n; }", 6);
    Bench.exits("char c = 127; unsigned char d = 255; int main(void) { int x = c++; int y = ++d; return x == 127 && c == -128 && y == 0 && d-- == 0 && d == 255 && --c == 127; }", 1);
    Bench.exits("int main(void) { return (2 && 3) + (0 || 5) + !0 + (1.5 && 1) + (0.0 || 0.5) + !0.0 + (\"\" && 1) + !\"\"; }", 7);
    Bench.exits("int main(void) { float f = 16777216.0f; double d = 16777216.0; return ++f == 16777216.0f && ++d == 16777217.0 && d++ == 16777217.0 && d == 16777218.0 && --d == 16777217.0 && d-- == 16777217.0 && d == 16777216.0; }", 1);
    Bench.exits("int main(void) { float f = 1.5f; double d = 0.5; f++; d--; return f == 2.5f && d == -0.5 && f++ == 2.5f && f == 3.5f && --f == 2.5f && f-- == 2.5f && f == 1.5f; }", 1);
    Bench.exits("int main(void) { unsigned char c = 200; return c + 100 == 300 && (c += 100) == 44 && c == 44; }", 1);
    Bench.exits("int main(void) { float f = 16777216.0f; double d = f++; return d == 16777216.0 && f == 16777216.0f && (f += 1.0) == 16777216.0f && (f += 2) == 16777218.0f; }", 1);
  }

  /** "PROMOTION: .. bit-fields, to int (an unsigned bit-field of width 32 to unsigned)"; "an assignment to a bit-field, ++ and -- of one have its declared type". */
  private static void bitFields() {
    String s = "struct { int a : 1, b : 31, c : 32; unsigned d : 1, e : 31, f : 32; } s; int main(void) { ";
    Bench.exits(s + "s.a = 1; s.b = 0x40000000; s.c = 0x80000000; return s.a == -1 && s.b == -0x40000000 && s.c == -2147483647 - 1; }", 1);
    Bench.exits(s + "s.d = 3; s.e = -1; s.f = -1; return s.d == 1 && s.e == 2147483647 && s.f == 4294967295u; }", 1);
    Bench.exits(s + "return (s.e - 1 < 0) + 2 * (s.f - 1 > 0) + 4 * (s.d - 1 < 0) + 8 * (s.c - 1 < 0) + 16 * ((0, s.e) - 1 < 0) + 32 * (+s.f - 1 > 0); }", 63);
    Bench.exits(s + "return ((s.e = 0) - 1 > 0) + 2 * (s.d++ - 1 > 0) + 4 * ((s.d = 1) - 2 > 0) + 8 * (--s.e > 0) + 16 * ((s.a = 0) - 1 < 0) + 32 * ((s.e += 0) > 0); }", 63);
    Bench.exits(s + "s.d = 1; return s.d++ * 10 + s.d * 100 + (s.a = 1) + 1 + (s.a-- == -1) + (s.a == 0) * 2; }", 13);
    Bench.exits(s + "return (s.d = 2) == 0 && (s.b = 0x7fffffff) == -1 && (s.d += 3) == 1 && (s.d <<= 1) == 0; }", 1);
    Bench.exits(s + "s.f = 5; s.f--; s.e = 7; int x = ++s.e, y = s.e++, z = --s.e; return s.f == 4 && x == 8 && y == 8 && z == 8 && s.f-- == 4 && --s.f == 2 && s.d == 0; }", 1);
    Bench.exits("struct { int : 5; int a : 6; unsigned b : 6; } s; int main(void) { s.a = 31; s.b = 63; int x = ++s.a, y = ++s.b, z = --s.b; return x == -32 && y == 0 && z == 63 && s.a == -32 && (s.a -= 1) == 31; }", 1);
    Bench.exits(s + "s.f = -1; s.f /= 2; return s.f == 2147483647 && (s.f = -1, s.f >>= 31) == 1 && (s.f = -1, s.f %= 10) == 5; }", 1);
    Bench.exits(s + "s.e = 1; s.e /= -1; return s.e == 2147483647 && (s.e = 5, s.e -= 6) == 2147483647 && (s.e = 7, s.e *= -1, s.e %= 10) == 1; }", 1);
    Bench.exits(s + "s.c = -8; s.c >>= 1; s.b = -8; s.b >>= 1; return s.c == -4 && s.b == -4 && (s.b /= -4) == 1; }", 1);
    Bench.exits("struct { unsigned a : 4, b : 4; } s; int main(void) { s.a = 15; s.b = 1; s.a++; return s.a * 16 + s.b + (s.b-- == 1) + s.b; }", 2);
    Bench.exits("struct { unsigned a : 4, : 4, b : 8, : 0, c : 1; char d; } s = { 1, 2, 1, 3 }; int main(void) { int *p = (int *)&s; return p[0] == 0x201 && p[1] == 1 && p[2] == 3 && sizeof s == 12; }", 1);
  }
}
