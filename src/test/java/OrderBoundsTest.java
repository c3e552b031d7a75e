/** Of two faults the one that is looked at first: THE ORDER OF LOOKING in section 9, and the lines that section 6 tells. */
public final class OrderBoundsTest {
  private static final String HEAD = "typedef int T; struct inc; extern struct inc xi; struct s { int m, n[2]; unsigned b : 3; }; union u { int a; }; struct s gs; enum { E };"
      + " int f(int a) { return a; } int f2(int a, int b) { return a; } void v(void) { } struct s g(void) { return gs; } int undefined(int); struct inc h(void);\n";
  private static final String MAIN = "\nint main(void) { return 0; }\n";
  /** Something that is wrong, at its own line. */
  private static final String BAD = "sizeof(\nstruct { int q, q; })";

  public static void main(String[] args) {
    leftOperands();
    rightOperands();
    placesOfAssignments();
    choicesAndCommas();
    callsAndArguments();
    variableArguments();
    ownExpressionsFirst();
    forParts();
    statements();
    declarators();
    initialisers();
    staticObjects();
    specifierWords();
    parameterStorage();
    members();
    enumerators();
    parameters();
    functionEnds();
    innermostLines();
    Bench.finish();
  }

  /** In main, on line 3: the fault is that of the statement or declaration (1), or that of the bad thing at @ (2). */
  private static void first(int which, String statement) {
    Bench.faults(HEAD + "int main(void) { int i, j, a[3], *p; char *cp; double d; struct s s, *sp; union u u; void *vp;\n" + statement.replace("@", BAD) + "; return 0; }\n", 4, which + 2);
  }

  /** The same for a declaration of the unit, on line 2. */
  private static void outside(int which, String declaration) {
    Bench.faults(HEAD + declaration.replace("@", BAD) + ";" + MAIN, 4, which + 1);
  }

  private static void both(int which, String declaration) {
    outside(which, declaration);
    first(which, declaration);
  }

  /** "What stands on the left of a binary operator .. is looked at when that sign is read, before what stands to the right of it: as a value". */
  private static void leftOperands() {
    for (String sign : "* / % + - << >> < > <= >= == != & ^ |".split(" ")) {
      first(1, "v() " + sign + " @");
      first(1, "xi " + sign + " @");
      first(1, "undeclared " + sign + " @");
      first(1, "(void)i " + sign + " @");
      first(1, "-s " + sign + " @");
      first(1, "s.none " + sign + " @");
      // Whether the operator fits is looked at behind the right one.
      first(2, "s " + sign + " @");
      first(2, "g() " + sign + " @");
      first(2, "1 " + sign + " @");
    }
    for (String sign : "* / % << >> & ^ |".split(" ")) {
      first(2, "p " + sign + " @");
      first(2, "a " + sign + " @");
      first(2, "f " + sign + " @");
      first(1, "p " + sign + " 2, @");
      first(1, "p " + sign + " 2 || @");
    }
    for (String sign : "&& ||".split(" ")) {
      first(1, "v() " + sign + " @");
      first(1, "s " + sign + " @");
      first(1, "xi " + sign + " @");
      first(1, "g() " + sign + " @");
      first(2, "p " + sign + " @");
      first(2, "d " + sign + " @");
      first(2, "f " + sign + " @");
      first(1, "1 " + sign + " s + @".replace("s + @", "s " + sign + " @"));
      first(2, "1 " + sign + " (s + @)");
    }
    first(1, "v()[@]");
    first(1, "xi[@]");
    first(2, "i[@]");
    first(2, "s[@]");
    first(2, "d[@]");
    first(2, "vp[@]");
    first(1, "i[1] + @");
    first(1, "vp[1] + @");
    first(1, "*i + @");
    first(1, "*vp + @");
    first(1, "i->m + @");
    first(1, "s->m + @");
    first(1, "sp.m + @");
    first(1, "!s + @");
    first(1, "~d + @");
    first(1, "++1 + @");
    first(1, "1++ + @");
    first(1, "&1 + @");
    first(1, "&s.b + @");
    first(1, "(struct s)i + @");
    first(1, "(double)p + @");
    first(1, "sizeof v() + @");
    first(1, "sizeof s.b + @");
    first(1, "sizeof(void) + @");
  }

  /** "Both sides together are looked at behind the right one." */
  private static void rightOperands() {
    for (String sign : "* / % + - << >> < > <= >= == != & ^ | && ||".split(" ")) {
      first(2, "1 " + sign + " @ " + sign + " undeclared");
      first(2, "@ " + sign + " v()");
      first(2, "@ " + sign + " undeclared");
    }
    first(1, "1 + p * 2 + @");
    first(2, "1 + p * @");
    first(2, "p + p * @");
    first(1, "p + p + @");
    first(2, "p + p[@]");
    first(1, "1.5 % 2 == @");
    first(2, "1.5 % (2 == @)");
  }

  /** "for an assignment as a place (of a complete type) that may be assigned" */
  private static void placesOfAssignments() {
    for (String sign : "= *= /= %= += -= <<= >>= &= ^= |=".split(" ")) {
      for (String left : new String[] {"1", "a", "f", "f(1)", "i++", "++i", "-i", "xi", "g()", "g().m", "g().b", "E", "\"a\"", "(i, i)", "(1 ? i : i)", "(i = 1)", "v()", "undeclared", "sizeof i", "&i"}) {
        first(1, left + " " + sign + " @");
      }
      for (String left : new String[] {"i", "*p", "s.m", "s.b", "d", "p", "s", "u", "*\"a\"", "g().n[0]", "(i)", "vp"}) {
        first(2, left + " " + sign + " @");
      }
    }
    first(2, "s = @");
    first(2, "p = @ + 1");
    first(1, "i = s, @");
    first(2, "i = s + @");
    first(2, "i = j = s.b = @");
    first(1, "i = 1 = @");
    first(2, "s += @");
    first(1, "s += 1, @");
  }

  /** "for && || ? as a scalar"; "the middle of ? : .. is looked at when the sign behind it is read"; "of a comma operator .. as a value". */
  private static void choicesAndCommas() {
    first(1, "s ? @ : 1");
    first(1, "v() ? @ : 1");
    first(1, "g() ? @ : 1");
    first(2, "p ? @ : 1");
    first(2, "1 ? @ : undeclared");
    first(2, "1 ? s : @");
    first(2, "1 ? p : @");
    first(2, "1 ? v() : @");
    first(1, "1 ? xi : @");
    first(1, "1 ? undeclared : @");
    first(1, "1 ? s : 1, @");
    first(1, "1 ? v() : 1, @");
    first(1, "xi, @");
    first(2, "s, @");
    first(2, "v(), @");
    first(2, "(void)s, @");
    first(2, "f, a, @");
    first(2, "i, @, undeclared");
  }

  /** "for a call as a function or a pointer to one"; "An argument (also that it is one too many) .. is looked at when the sign behind it is read; that arguments are too few .. at the )". */
  private static void callsAndArguments() {
    for (String called : new String[] {"1", "i", "p", "s", "d", "a", "v()", "g()", "xi", "undeclared", "*p", "vp", "h", "f(1)"}) {
      first(1, called + "(@)");
    }
    for (String called : new String[] {"f", "*f", "&f", "(f)", "(1 ? f : 0)", "v", "undefined", "printf", "strlen", "exit"}) {
      first(2, (called.length() > 1 && called.charAt(0) != '(' && !Character.isLetter(called.charAt(0)) ? "(" + called + ")" : called) + "(@)");
    }
    first(2, "f(1, @)");
    first(1, "f(1, 2, @)");
    first(2, "f(@, 2)");
    first(1, "f(s, @)");
    first(1, "f2(p, @)");
    first(2, "f2(@, p)");
    first(2, "f2(@)");
    first(1, "f2(1) + @");
    first(1, "f() + @");
    first(1, "v(1) + @");
    first(1, "v(1, @)");
    first(2, "v(@)");
    first(1, "strlen(1) + @");
    first(1, "memset(a, s, @)");
    first(1, "memset(a, 1) + @");
    first(2, "memset(a, @)");
    first(1, "printf(\"a\", s, @)");
    first(1, "printf(\"a\", v(), @)");
    first(2, "printf(\"a\", @, s)");
    first(1, "printf(1, @)");
    first(1, "printf + @");
    first(1, "(printf)(@)");
    first(1, "printf, @");
  }

  private static void inVariable(int which, String statement) {
    Bench.faults(HEAD + "int k(int n, int m, ...) { va_list ap; int i; struct s s;\n" + statement.replace("@", BAD) + "; return 0; }" + MAIN, 4, which + 2);
  }

  /** "what va_arg, va_start and va_end are given (and that there is a ...) is looked at when the sign behind it is read; .. how many va_start and va_end have, at the )" */
  private static void variableArguments() {
    inVariable(1, "va_start(i, @)");
    inVariable(2, "va_start(ap, @)");
    inVariable(1, "va_start(ap, n, @)");
    inVariable(2, "va_start(ap, m, @)");
    inVariable(1, "va_start(ap, m, 1), @");
    inVariable(1, "va_start(ap) , @");
    inVariable(2, "va_start(@)");
    inVariable(1, "va_end(i, @)");
    inVariable(2, "va_end(ap, @)");
    inVariable(1, "va_end(ap, ap), @");
    inVariable(1, "va_end(), @");
    inVariable(1, "va_arg(i, struct { int q[@]; })");
    inVariable(2, "va_arg(ap, struct { int q[@]; })");
    inVariable(1, "va_arg(ap, char) + @");
    inVariable(1, "va_start(ap, i), @");
    // Without ... in the function.
    first(1, "va_start(cp, @)");
    first(1, "va_end(cp), @");
    first(1, "va_end(cp, @)");
    first(1, "va_arg(cp, struct { int q[@]; })");
    first(2, "va_start(@, i)");
  }

  /** "of a statement its own expressions before the statements in it (but a do's condition behind its statement)" */
  private static void ownExpressionsFirst() {
    inMain(2, "if (\nundeclared)\nundeclared;");
    inMain(4, "if (\n1)\nundeclared; else\nundeclared;");
    inMain(5, "if (\n1)\n; else\nundeclared;");
    inMain(2, "while (\nundeclared)\nundeclared;");
    inMain(4, "while (\n1)\nundeclared;");
    inMain(2, "switch (\nundeclared)\nundeclared;");
    inMain(2, "switch (\n1.5)\nundeclared;");
    inMain(3, "do\nundeclared;\nwhile (undeclared);");
    inMain(2, "do\n;\nwhile (undeclared);");
    inMain(3, "do\nwhile (undeclared)\nundeclared;\nwhile (undeclared);");
    inMain(3, "if (1)\nif (undeclared)\nundeclared;");
  }

  /** The statements begin on line 2; the fault is told at a line. */
  private static void inMain(int line, String statements) {
    Bench.faults("int main(void) {\n" + statements + " return 0; }", 4, line);
  }

  /** "of a for for its declaration or first part, condition, third part, body" */
  private static void forParts() {
    first(2, "for (@; undeclared; undeclared) undeclared");
    first(1, "for (undeclared; @; ) ;");
    first(2, "for (; @; undeclared) ;");
    first(1, "for (; undeclared; @) ;");
    first(2, "for (; ; @) undeclared;");
    first(1, "for (; ; undeclared) { @; }");
    first(1, "for (s; s; @) ;");
    first(2, "for (s; ; @) ;");
    first(1, "for (int k = s; @; ) ;");
    first(2, "for (int k = @; s; ) ;");
    inMain(3, "for (\nint k = undeclared;\nundeclared; ) ;");
    inMain(2, "for (\nint k = 0;\nundeclared; ) ;");
    inMain(4, "for (\n;\n; )\nundeclared;".replace("\n; )\n", "; )\n"));
    inMain(2, "for (\n;\n; undeclared)\nundeclared;");
  }

  private static void statements() {
    first(1, "switch (d) { case @: ; }");
    first(2, "switch (i) { case @: undeclared; }");
    first(1, "switch (i) { case 1: case 1: @; }");
    first(2, "switch (i) { case 1: @; case 1: ; }");
    first(1, "switch (i) { default: default: @; }");
    first(1, "switch (i) { case 1.5: @; }");
    first(1, "break; @");
    first(1, "continue; @");
    first(1, "l: ; l: @");
    first(2, "l: @; l: ;");
    first(2, "goto nowhere; @");
    first(2, "undefined(1); @");
    first(1, "return s; @");
    first(2, "return @, s");
    first(1, "if (s) @");
    first(1, "while (v()) @");
    first(2, "do @; while (s)");
    Bench.faults("void w(void) {\nreturn " + BAD + "; }" + MAIN, 4, 3);
    Bench.faults("void w(void) {\nreturn 1 + " + BAD + "; }" + MAIN, 4, 3);
    Bench.faults("void w(void) {\nreturn 1; " + BAD + "; }" + MAIN, 4, 2);
  }

  /** "of a declaration its specifiers, then each declarator with its initialiser"; "the length of an array at its ]" */
  private static void declarators() {
    both(1, "int int x[@]");
    both(1, "void x, y[@]");
    both(2, "void y[@], x".replace("void y[@], x", "int y[@], x[0]"));
    both(1, "int x[0], y[@]");
    both(1, "int x[0][@]");
    both(2, "int x[@][0]");
    both(1, "int x[262145][@]");
    both(1, "int x[1.5][@]");
    both(2, "int x[@], y = undeclared");
    both(1, "int x = undeclared, y[@]");
    both(1, "int x = 1, x = @".replace("int x = 1, x = @", "int x, *x, y[@]"));
    both(2, "int x, y[@], *x");
    both(1, "int (x(void))(void), y[@]");
    both(1, "int (x(void))[2], y[@]");
    both(1, "void x[2], y[@]");
    both(1, "int (x[2])(void), y[@]");
    both(1, "struct inc x[2], *y[@]");
    both(1, "int x[65537], y[@]");
    both(2, "int x[2], y[@], z[65537]");
    first(1, "struct inc x, *y[@]");
    first(1, "int x[], y[@]");
    both(2, "int x(int y[@]), z[0]");
    both(1, "int x(int y[0]), z[@]");
  }

  /** "parts of initialisers from the left"; "that which an initialiser tells at its }"; "that an object is complete .. ahead of its initialiser; one part too many when it begins" */
  private static void initialisers() {
    both(1, "void x = @");
    both(1, "struct inc x = @");
    both(1, "struct inc x = { @ }");
    both(1, "int x(void) = @");
    both(1, "int x = { 1, @ }");
    both(2, "int x = { @, 1 }");
    both(1, "int x[1] = { 1, @ }");
    both(2, "int x[1] = { @, 1 }");
    both(1, "int x[2] = { 1, 2, @ }");
    both(2, "int x[2] = { 1, @ }");
    both(1, "int x[2] = { gs, @ }");
    both(2, "int x[2] = { @, gs }");
    both(1, "int x[2] = { [2] = @ }");
    both(1, "int x[2] = { [-1] = @ }");
    both(2, "int x[2] = { [@] = 1 }");
    both(1, "int x[2] = { [1] = 1, @ }");
    both(2, "int x[2] = { [1] = @, 1 }");
    both(1, "struct s x = { .q = @ }");
    both(1, "struct s x = { [0] = @ }");
    both(1, "int x[1] = { .q = @ }");
    both(1, "union u x = { 1, @ }");
    both(2, "union u x = { @, 1 }");
    both(1, "struct s x = { 1, { 2, 3, @ } }");
    both(1, "struct s x = { 1, 2, 3, 4, @ }");
    both(2, "struct s x = { 1, 2, 3, @ }");
    both(1, "int x = { { @ } }");
    both(1, "int x = { { 1 }, @ }");
    // An array without length has each element; how long it becomes is told at the }.
    both(2, "int x[] = { [262143] = @ }");
    both(2, "int x[] = { [262144] = @ }");
    both(2, "int x[] = { [262145] = @ }");
    both(2, "int x[] = { [9223372036854775807] = @ }");
    both(2, "int x[] = { [262145] = 1, @ }");
    both(1, "int x[] = { [262145] = 1, 2, 3 }, y[@]");
    both(1, "char x[] = { [262144] = 1 }, y[@]");
    outside(2, "char x[] = { [262143] = 1 }, y[@]");
    both(1, "int x[] = { [-1] = @ }");
    both(1, "int x[3] = { [3] = @ }");
    both(2, "int x[] = { [65536] = 1, @ }");
    both(1, "int x[] = { }, y[@]");
    both(1, "int x[] = { [65536] = 1 }, y[@]");
    both(1, "int x = gs, y[@]");
    both(1, "char x[2] = \"abc\", y[@]");
    both(2, "int x = undeclared".replace("undeclared", "@ + undeclared"));
  }

  /** "a name that a static object may not use when it is read" */
  private static void staticObjects() {
    first(1, "static int x = i + @");
    first(2, "static int x = @ + i");
    first(1, "static int x[2] = { i, @ }");
    first(1, "static int x = s.none + @");
    first(2, "static int x = sizeof i + @");
    first(2, "static int x = E + @");
    first(2, "static int x = f(1) + @");
    first(1, "static int x = f(i) + @");
    first(1, "static int *x = &i, y[@]");
    first(1, "extern int x = i + @");
  }

  /** "what is wrong in the words so far, one that is there twice, two of storage, a type word beside a struct, union or enum, when a struct, union or enum comes, ahead of what stands in it, else behind the last word" */
  private static void specifierWords() {
    for (String before : new String[] {"const const", "int", "unsigned", "static extern", "extern static", "typedef static", "volatile int volatile", "T", "long", "inline inline", "auto auto", "restrict restrict", "struct s", "enum { R }"}) {
      both(1, before + " struct { int q[@]; } x");
      both(1, before + " union { int q[@]; } x");
      both(1, before + " enum { Q = @ } x");
    }
    for (String behind : new String[] {"const const", "int", "static extern", "unsigned", "long", "struct s", "inline inline"}) {
      both(2, "struct { int q[@]; } " + behind + " x");
      both(2, "enum { Q = @ } " + behind + " x");
      both(2, behind.split(" ")[0].equals("const") ? "const struct { int q[@]; } const x" : "struct { int q[@]; } " + behind + " x");
    }
    both(2, "static struct { int q[@]; } extern x");
    both(2, "const struct { int q[@]; } const x");
    both(1, "short long x[@]");
    both(1, "const const int x[@]");
    both(1, "static extern int x[@]");
    both(1, "const x[@]");
    both(1, "struct none2 { int q; } struct { int q[@]; } x");
    // Specifiers with a struct, union or enum have a line of their own, others that of their declaration.
    Bench.faults("int f(int a,\nconst const struct s *b);" + MAIN, 4, 2);
    Bench.faults("int f(int a,\nconst const int *b);" + MAIN, 4, 1);
    Bench.faults("int f(int a,\nint struct s *b);" + MAIN, 4, 2);
    Bench.faults("int f(int a,\nenum none b);" + MAIN, 4, 2);
    Bench.faults("int x = sizeof(\nint struct s *);" + MAIN, 4, 2);
    Bench.faults("int x = sizeof(\nint double);" + MAIN, 4, 1);
    Bench.faults("int x = sizeof(\nstruct s\nint *);" + MAIN, 4, 2);
  }

  /** "typedef, extern or static of a parameter when it is read, at the line of its function's declaration" */
  private static void parameterStorage() {
    for (String word : new String[] {"typedef", "extern", "static"}) {
      both(1, "int x(" + word + " int y[@])");
      both(1, "int x(" + word + " struct { int q[@]; } *y)");
      both(2, "int x(int y[@], " + word + " int z)");
      both(2, "int x(struct { int q[@]; } " + word + " *y)");
      both(1, "int x(const " + word + " struct { int q[@]; } *y)");
      Bench.faults("int f(int a,\n" + word + " struct s *b);" + MAIN, 4, 1);
      Bench.faults("int f(int a,\n" + word + " int b)\n{ return 0; }" + MAIN, 4, 1);
      Bench.faults("int x;\nint main(void) {\nint f(\n" + word + " int b); }", 4, 3);
      Bench.faults("int x;\nint main(void) {\nreturn sizeof(int (*)(\n" + word + " int b)); }", 4, 3);
    }
    Bench.exits("int f(auto int a, register int b, inline int c, const int d) { return a + b + c + d; } int main(void) { return f(1, 2, 3, 4); }", 10);
  }

  /** "members .. from the left"; "a bit-field's type and width behind the width; the size of a struct or union at its }" */
  private static void members() {
    both(1, "struct { int a; int a; int q[@]; } x");
    both(2, "struct { int a; int q[@]; int a; } x");
    both(1, "struct { int a, a, q[@]; } x");
    both(1, "struct { void a; int q[@]; } x");
    both(1, "struct { struct inc a; int q[@]; } x");
    both(1, "struct { int a(void); int q[@]; } x");
    both(1, "struct { int a[]; int q[@]; } x");
    both(1, "struct { int a[0]; int q[@]; } x");
    both(2, "struct { double a : @; } x");
    both(1, "struct { double a : 3; int q[@]; } x");
    both(2, "struct { char a : @ + 40; } x");
    both(1, "struct { int a : 33; int q[@]; } x");
    both(1, "struct { int a : 0; int q[@]; } x");
    both(1, "struct { int a : -1, b : @; } x");
    both(1, "struct { int a : 1.5, b : @; } x");
    both(1, "struct { int int a; int q[@]; } x");
    both(2, "struct { char a[262144]; char b; int q[@]; } x");
    both(1, "struct { char a[262145]; int q[@]; } x");
    both(1, "struct { char a[262144]; char b; } x, y[@]");
    both(2, "union { char a[262144]; int q[@]; double b : 2; } x");
    both(1, "struct { int : 3; } x, y[@]");
    both(2, "struct { int : 3; int q[@]; } x");
    Bench.faults("int x,\ny = sizeof(\nstruct {\nint a;\nint a; });" + MAIN, 4, 3);
    Bench.faults("const\nstruct {\nint a;\nint a; } x;" + MAIN, 4, 1);
    Bench.faults("struct {\nint a;\nstruct {\nchar a[262144], b;\n} b; } x;" + MAIN, 4, 3);
    Bench.faults("struct {\nint a;\nconst\nstruct {\nint : 3;\n} b; } x;" + MAIN, 4, 3);
  }

  private static void enumerators() {
    both(1, "enum { A = 1.5, B = @ } x");
    both(2, "enum { A = @, B = 1.5 } x");
    both(1, "enum { A, A, B = @ } x");
    both(2, "enum { A, B = @, A } x");
    both(1, "enum { A = 1 / 0, B = @ } x");
    both(1, "enum { A = 1 << 32, B = @ } x");
    both(1, "enum none x[@]");
    both(1, "enum s x[@]");
    both(1, "struct none { int a; } x[0], y[@]");
    Bench.faults("int x = sizeof(\nconst enum {\nA,\nA });" + MAIN, 4, 2);
  }

  private static void parameters() {
    both(1, "int x(int a, int a, int b[@])");
    both(2, "int x(int a, int b[@], int a)");
    both(1, "int x(int int a, int b[@])");
    both(1, "int x(int a[0], int b[@])");
    both(1, "int x(int a[2][0], int b[@])");
    both(1, "int x(int a(int)[2], int b[@])");
    both(2, "int x(int b[@])[2]");
    both(1, "int x(void)[2], b[@]");
    // Names of parameters of a definition are looked at behind them, incomplete ones too.
    Bench.faults("int x(int,\nint b[" + BAD + "]) { return 0; }" + MAIN, 4, 3);
    Bench.faults("struct i; int x(struct i a,\nint b[" + BAD + "]) { return 0; }" + MAIN, 4, 3);
    Bench.faults("int x(int,\nint b) { return " + BAD + "; }" + MAIN, 4, 1);
    Bench.faults("struct i; int x(\nstruct i a) { return " + BAD + "; }" + MAIN, 4, 1);
    Bench.faults("void x(\nvoid a) { return " + BAD + "; }" + MAIN, 4, 1);
  }

  /** "at a function's end its gotos, at the unit's end the rest" */
  private static void functionEnds() {
    Bench.faults("int u(void);\nint w(void) { goto n;\nreturn u(); }\nint x = y;" + MAIN, 4, 3);
    Bench.faults("int u(void);\nint w(void) {\nreturn u(); }\nint x = y;" + MAIN, 4, 4);
    Bench.faults("int u(void);\nint w(void) {\nreturn u(); }\nint x;\nint main(void) { return 0; }", 4, 5);
    Bench.faults("int w(void) { goto n; }\nint main(void) { goto m;\n}", 4, 1);
    Bench.faults("int w(void) { return\n0; }\nint x;", 4, 3);
    Bench.faults("extern int x; int main(void) { return x;\n}\n\nint y;", 4, 4);
    Bench.faults("struct i x; int main(void) { return 0;\n}\n\nint y;", 4, 4);
    Bench.faults("int x[]; int main(void) { return 0;\n}\n\nint y;", 4, 4);
    Bench.exits("struct i x; int z[]; extern int k; struct i { int a; }; int z[2]; int main(void) { return sizeof x + sizeof z; }", 12);
  }

  /** "the line told is that of the first token of the innermost declaration, statement or (of a struct, union or enum) specifiers that has the fault" */
  private static void innermostLines() {
    inMain(2, "int\nx\n= undeclared;");
    inMain(2, "x\n= 1;");
    inMain(3, "{\nx\n= 1; }");
    inMain(4, "if (1)\n{\nint x = undeclared; }");
    inMain(3, "l:\nx\n= 1;");
    inMain(2, "l:\n; l: ;".replace("\n; l: ;", ";") + " l: ;");
    inMain(3, "switch (1) { case 1:\ncase\n1: ; }");
    inMain(3, "switch (1) { case 1:\ndefault: ; case 2:\n; default: ; }".replace("case 2:\n; default: ;", "default: ;"));
    inMain(3, "for (;;)\nreturn\nundeclared;");
    inMain(3, "int a[2] = { 1,\nsizeof(struct { int q, q; }) };");
    inMain(2, "int a[2] = { 1,\nundeclared };");
    inMain(3, "sizeof(1) +\nsizeof(const struct { int q, q; });");
    Bench.faults("int a,\nb = 1,\nc = undeclared;" + MAIN, 4, 1);
    Bench.faults("static\nint\nf(int a,\nint a)\n{ return 0; }" + MAIN, 4, 1);
    Bench.faults("int f(void) { return 0; }\nint\nf(void)\n{ return 0; }" + MAIN, 4, 2);
  }
}
