/** The boundary cases of section 4: what is how deep, where a typedef name is one, at which token a fault is told. */
public final class SyntaxBoundsTest {
  public static void main(String[] args) {
    depthOfExpressions();
    depthInParts();
    depthOfStatements();
    depthOfDeclarators();
    depthOfBraces();
    depthThatAddsUp();
    threeBeforeFive();
    typedefFromItsDeclarator();
    hiddenFromItsDeclarator();
    toTheEndOfItsBlock();
    hideNothing();
    typeWordBefore();
    itemsAndLabels();
    endOfTheText();
    unaryBeforeAssignment();
    commasAndEnds();
    vaArg();
    definitions();
    withoutStorage();
    declarationsInFor();
    nearestIf();
    Bench.finish();
  }

  private static final String OPEN = "typedef int T; int x, *p = &x, a[9]; int f(int y, ...) { return y; } int g(int n, ...) { va_list ap; return\n";

  /** Behind the first token the text goes on in another line. */
  private static String firstAlone(String text) {
    int end = 1;
    while (end < text.length() && Character.isLetterOrDigit(text.charAt(end - 1)) && Character.isLetterOrDigit(text.charAt(end))) {
      end++;
    }
    return text.charAt(0) == '"' || text.charAt(0) == '.' ? text : text.substring(0, end) + "\n" + text.substring(end);
  }

  /** At depth 39 the text fits, at depth 40 its token in the line behind is too deep. */
  private static void deep(String text) {
    int opened = text.indexOf('@');
    String before = text.substring(0, opened);
    String behind = text.substring(opened + 1);
    Bench b = new Bench().source(OPEN + "(".repeat(38) + before + behind + ")".repeat(38) + "; } int main(void) { return 0; }");
    int code = b.x.compile();
    Bench.due("just deep enough " + text, code == 4 ? 0 : code, 0);
    Bench.faults(OPEN + "(".repeat(39) + before + "\n" + firstAlone(behind) + ")".repeat(39) + "; }", 5, 3);
  }

  /** "DEPTH: each ( [ { , each operand of a prefix operator, cast or sizeof, each right side of an assignment, each of the two last parts of ?:" */
  private static void depthOfExpressions() {
    for (String text : new String[] {"@(1)", "f@(1)", "f@()", "a@[1]", "-@x", "+@x", "~@x", "!@x", "&@x", "*@p", "++@x", "--@x", "@(int)x", "sizeof@(int)", "sizeof@(T)", "sizeof @x", "x=@1", "x*=@1", "x/=@1", "x%=@1",
        "x+=@1", "x-=@1", "x<<=@1", "x>>=@1", "x&=@1", "x^=@1", "x|=@1", "x?@1:1", "x?@x:1", "va_arg@(ap,int)", "-@1", "-@\"a\"", "-@1.5", "-@-x"}) {
      deep(text);
    }
    // The last part of ?: begins behind the :, at the same depth as the middle one.
    Bench.exits("int x; int main(void) { return " + "x?1:".repeat(39) + "7; }", 7);
    Bench.faults("int x; int main(void) { return " + "x?1:".repeat(39) + "x?\n1:\n7; }", 5, 2);
    Bench.faults("int x; int main(void) { return " + "x?1:".repeat(38) + "x?1:\nx?\n1:7; }", 5, 3);
    Bench.exits("int x; int main(void) { return " + "x?".repeat(39) + "1" + ":7".repeat(39) + "; }", 7);
    // A right side that is an assignment is deeper once more, a left one is not.
    Bench.exits("int x; int main(void) { " + "x = ".repeat(39) + "7; return x; }", 7);
    Bench.faults("int x; int main(void) { " + "x = ".repeat(39) + "x =\n7; return x; }", 5, 2);
    // Operands of postfix and of operators between two, and what stands between commas, are no deeper.
    Bench.exits("int x; int main(void) { return " + "(".repeat(39) + "x++ + 1 * 2 << 1 < 3 == 0 & 1 ^ 1 | 1 && 1 || 1, x-- , 7" + ")".repeat(39) + "; }", 7);
    Bench.exits("struct s { struct s *p; int v; } s = { &s, 7 }; int main(void) { return " + "(".repeat(39) + "s.p->p->p->v" + ")".repeat(39) + "; }", 7);
    // sizeof ( type ): only its ( is deeper.
    Bench.exits("int main(void) { return " + "(".repeat(38) + "sizeof(int) + (char)1 + sizeof(int *) * 2" + ")".repeat(38) + "; }", 13);
    Bench.faults("int main(void) { return " + "(".repeat(39) + "sizeof\n(int)" + ")".repeat(39) + "; }", 5, 2);
    Bench.faults("int x; int main(void) { return " + "(".repeat(38) + "sizeof\n(x)" + ")".repeat(38) + "; }", 5, 2);
    Bench.exits("int x; int main(void) { return " + "(".repeat(37) + "sizeof(x)" + ")".repeat(37) + "; }", 4);
    // The operand of a cast is one deeper than the cast, as its ( is.
    Bench.exits("int x = 7; int main(void) { return " + "(".repeat(37) + "(int)(x)" + ")".repeat(37) + "; }", 7);
    Bench.faults("int x = 7; int main(void) { return " + "(".repeat(38) + "(int)\n(x)" + ")".repeat(38) + "; }", 5, 2);
    Bench.exits("int x = 7; int main(void) { return " + "(".repeat(38) + "(int)x" + ")".repeat(38) + "; }", 7);
    Bench.exits("int x = 7; int main(void) { return " + "(int)".repeat(39) + "x; }", 7);
    Bench.faults("int x = 7; int main(void) { return " + "(int)".repeat(39) + "\n(int)x; }", 5, 2);
  }

  /** What stands in a type name, in va_arg and behind ++ and -- is as deep as told of what it stands in. */
  private static void depthInParts() {
    String main = "; int main(void) { return 0; }";
    Bench.exits("int (*x)[2] = (int (*)[" + in(38, "2") + "])0" + main, 0);
    Bench.faults("int (*x)[2] = (int (*)[" + in(38, "\n(2)") + "])0" + main, 5, 2);
    Bench.exits("int x = sizeof(int [" + in(38, "2") + "])" + main, 0);
    Bench.faults("int x = sizeof(int [" + in(38, "\n(2)") + "])" + main, 5, 2);
    Bench.exits("struct { int y : " + in(39, "2") + "; } x" + main, 0);
    Bench.faults("struct { int y : " + in(39, "\n(2)") + "; } x" + main, 5, 2);
    Bench.exits("struct { struct { int y : " + in(38, "2") + "; } z; } x" + main, 0);
    Bench.faults("struct { struct { int y : " + in(38, "\n(2)") + "; } z; } x" + main, 5, 2);
    String open = "int f(int n, ...) { va_list ap; va_start(ap, n); return\n";
    Bench.exits(open + "va_arg(" + in(38, "ap") + ", int); } int main(void) { return f(0, 7); }", 7);
    Bench.faults(open + "va_arg(" + in(38, "\n(ap)") + ", int); } int main(void) { return f(0, 7); }", 5, 3);
    Bench.exits(open + "va_arg(ap, int (*)[" + in(36, "2") + "]) == 0; } int main(void) { return f(0, 0); }", 1);
    Bench.faults(open + "va_arg(ap, int (*)[" + in(37, "\n(2)") + "]) == 0; } int main(void) { return f(0, 0); }", 5, 3);
    for (String sign : new String[] {"++ ", "-- ", "++ -- "}) {
      int each = sign.length() / 3;
      Bench.faults("int x; int main(void) {\n" + sign.repeat(38 / each) + "++\nx; }", 4, 2);
      Bench.faults("int x; int main(void) {\n" + sign.repeat(38 / each) + "++ ++\nx; }", 5, 3);
    }
    Bench.exits("int x; int main(void) { return " + "sizeof ".repeat(39) + "x; }", 4);
    Bench.faults("int x; int main(void) { return " + "sizeof ".repeat(39) + "sizeof\nx; }", 5, 2);
  }

  private static String in(int brackets, String inner) {
    return "(".repeat(brackets) + inner + ")".repeat(brackets);
  }

  /** "type name: specifiers (without storage) [abstract]"; "member: specifiers (without storage) field , .. ;" */
  private static void withoutStorage() {
    for (String word : new String[] {"typedef", "extern", "static", "inline", "auto", "register"}) {
      for (String text : new String[] {"int x = sizeof(@);", "int x = sizeof(int @);", "int x = sizeof(const @ int);", "int x = (@ int)1;", "int x = (int @)1;", "int x = (const @ int)1;", "struct { @ int a; } x;", "struct { int @ a; } x;",
          "struct { const @ int a; } x;", "struct { struct { int a; } @ b; } x;", "union { int a; int @ b; } x;", "int f(int n, ...) { va_list a; return va_arg(a, @ int); }", "int f(int n, ...) { va_list a; return va_arg(a, int @); }"}) {
        Bench.faults(text.replace("@", "\n" + word), 3, 2);
      }
    }
  }

  /** "for ( [expression] ; or a declaration": specifiers alone with ; are one too. */
  private static void declarationsInFor() {
    Bench.exits("int main(void) { int n = 0; for (struct q { int a; }; n < 3; n++) ; return n; }", 3);
    Bench.exits("int main(void) { int n = 0; for (enum { K = 4 }; n < K; n++) ; return n; }", 4);
    Bench.exits("int main(void) { int n = 0; for (int; n < 3; n++) ; return n; }", 3);
    Bench.exits("typedef int T; int main(void) { int n = 0; for (T;;) if (n++ > 4) break; return n; }", 6);
    Bench.faults("int main(void) { for (enum { K = 4 }; ; ) break;\nreturn K; }", 4, 2);
    Bench.faults("typedef int T; int main(void) { for (T\n: ; ; ) ; }", 3, 2);
    Bench.faults("int main(void) { for (int i = 0\n) ; }", 3, 2);
    Bench.faults("int main(void) { for (int i = 0; ;\n; ) ; }", 3, 2);
  }

  /** "each statement inside a statement that is no { }" */
  private static void depthOfStatements() {
    String[] once = {"do@;while(0);", "do@x;while(0);", "l:@;", "l:@x;", "l:@return 0;", "return@(1);", "x=@1;", "if@(1);", "switch@(1);", "while@(0);", "for@(;0;);", "{@{}}", "int y@[1];", "int y=@(1);", "int y=@{1};", "struct@{int q;}y;", "enum@{Q};",
        "int@(y);", "int h@(void);", "int*@y;", "l:@break;", "do@continue;while(0);", "l:@goto e;", "-@x;"};
    String[] twice = {"if(1)@{}", "if(1);else@{}", "switch(1)@{}", "while(0)@{}", "do@{}while(0);", "for(;0;)@{}", "l:@{}", "if(1)if@(1);", "if(1)l:@;", "if(1)while@(0);", "if(1)do@;while(0);", "if(1)for@(;0;);", "if(1)switch@(1);",
        "if(1)@(1);", "if(1)-@x;", "if(1)sizeof @x;", "if(1)x=@1;", "switch(1)case 1:@;", "switch(1)default:@;", "if(-@x);", "while(x=@0);", "for(-@x;0;);", "for(;-@x;);", "for(;0;-@x);", "do;while(-@x);", "switch(-@x);", "for(int y=@(1);0;);",
        "if(1)return@(1);", "l:m:@;", "if(1);else l:@;", "return(@(1));", "struct{int q@[1];}y;", "int y={@(1)};", "enum{Q=@(1)};", "int h(int@(void));", "int**@y;", "int(*@y);", "int y[@(1)];", "do l:@;while(0);"};
    for (String text : once) {
      fitsBelow(39, text);
    }
    for (String text : twice) {
      fitsBelow(38, text);
    }
    // A { in a statement that is no { } is deeper twice, that of a function's body and of a block once.
    Bench.exits("int main(void) { " + "if (1) {".repeat(19) + "return 5;" + "}".repeat(19) + " }", 5);
    Bench.exits("int main(void) { " + "if (1) {".repeat(19) + "if (1) return 5;" + "}".repeat(19) + " }", 5);
    Bench.faults("int main(void) { " + "if (1) {".repeat(19) + "if (1)\n{ return 5; }" + "}".repeat(19) + " }", 5, 2);
    Bench.faults("int main(void) { " + "if (1) {".repeat(19) + "{ if\n(1)\nreturn 5; }" + "}".repeat(19) + " }", 5, 2);
    // A statement behind a statement is as deep as that.
    Bench.exits("int main(void) { " + "{".repeat(39) + "; ; 1; 1; ;" + "}".repeat(39) + " return 5; }", 5);
    Bench.exits("int main(void) { for (" + "int i = 0; i < 3; i++) for (".repeat(38) + ";;) return 5; }", 5);
    // The parts of for are as deep as its (, which is one deeper than for.
    Bench.exits("int x; int main(void) { " + "{".repeat(38) + "for (x; x < 3; x++) ;" + "}".repeat(38) + " return x; }", 3);
  }

  /** In so many blocks what stands behind the @ is too deep, in one less it is not. */
  private static void fitsBelow(int blocks, String text) {
    int opened = text.indexOf('@');
    String before = text.substring(0, opened);
    String behind = text.substring(opened + 1);
    String head = "int x; int main(void) {\n";
    // The block in it is itself what opens.
    int more = text.equals("{@{}}") ? 1 : 0;
    Bench b = new Bench().source(head + "{".repeat(blocks - 1 - more) + before + behind + "}".repeat(blocks - 1 - more) + " e: return 0; }");
    int code = b.x.compile();
    Bench.due("just deep enough " + text, code == 4 ? 0 : code, 0);
    Bench.faults(head + "{".repeat(blocks - more) + before + "\n" + firstAlone(behind) + "}".repeat(blocks - more) + " }", 5, 3);
  }

  /** "and each declarator behind a * in a declarator is one deeper than what it stands in" */
  private static void depthOfDeclarators() {
    String main = "; int main(void) { return 0; }";
    String[][] nests = {{"(", "y", ")"}, {"*", "y", ""}, {"*const ", "y", ""}, {"(*", "y", ")"}};
    for (String[] nest : nests) {
      int most = nest[0].startsWith("(*") ? 20 : 40;
      Bench.exits("int " + nest[0].repeat(most) + nest[1] + nest[2].repeat(most) + main, 0);
      Bench.faults("int " + nest[0].repeat(most) + "\n(y)" + nest[2].repeat(most) + main, 5, 2);
      Bench.exits("int f(int " + nest[0].repeat(most - 1) + nest[1] + nest[2].repeat(most - 1) + ")" + main, 0);
    }
    Bench.exits("int " + "*".repeat(39) + "y(void)" + main, 0);
    Bench.faults("int " + "*".repeat(40) + "y\n(void)" + main, 5, 2);
    Bench.exits("int " + "*".repeat(39) + "y[2]" + main, 0);
    Bench.faults("int " + "*".repeat(40) + "y\n[2]" + main, 5, 2);
    Bench.faults("int " + "*".repeat(40) + "y, " + "*".repeat(40) + "z\n[2]" + main, 5, 2);
    Bench.exits("int y[2][2][2][2], z(int, int, int)" + main, 0);
    Bench.exits("int f" + "(int g".repeat(40) + ")".repeat(40) + main, 0);
    Bench.faults("int f" + "(int g".repeat(40) + "\n(int)" + ")".repeat(40) + main, 5, 2);
    Bench.exits("int y = sizeof(int " + "*".repeat(39) + ")" + main, 0);
    Bench.exits("int y = sizeof(int " + "*".repeat(40) + ")" + main, 0);
    Bench.faults("int y = sizeof(int " + "*".repeat(39) + "\n(*)[2])" + main, 5, 2);
    Bench.faults("int y = sizeof(int " + "*".repeat(39) + "\n[2])" + main, 5, 2);
    Bench.exits("int y = sizeof(int " + "*".repeat(38) + "[2])" + main, 0);
  }

  private static void depthOfBraces() {
    String main = "; int main(void) { return 0; }";
    Bench.exits("struct { ".repeat(40) + "int y; " + "} y; ".repeat(39) + "} y" + main, 0);
    Bench.faults("struct { ".repeat(40) + "struct\n{ int y; } y; " + "} y; ".repeat(39) + "} y" + main, 5, 2);
    Bench.faults("struct { ".repeat(40) + "enum\n{ A } y; " + "} y; ".repeat(39) + "} y" + main, 5, 2);
    Bench.faults("struct { ".repeat(40) + "int y\n[2]; " + "} y; ".repeat(39) + "} y" + main, 5, 2);
    Bench.exits("struct { ".repeat(40) + "int y : 2, : 1; " + "} y; ".repeat(39) + "} y" + main, 0);
    Bench.exits("enum { A = " + "(".repeat(39) + "1" + ")".repeat(39) + " } y" + main, 0);
    Bench.faults("enum { A = " + "(".repeat(39) + "\n(1)" + ")".repeat(39) + " } y" + main, 5, 2);
    Bench.exits("int y" + "[1]".repeat(39) + " = " + "{".repeat(40) + "1" + "}".repeat(40) + main, 0);
    Bench.faults("int y" + "[1]".repeat(39) + " = " + "{".repeat(40) + "\n{1}" + "}".repeat(40) + main, 5, 2);
    Bench.faults("int y" + "[1]".repeat(39) + " = " + "{".repeat(40) + "\n[0] = 1" + "}".repeat(40) + main, 5, 2);
    Bench.exits("int y" + "[1]".repeat(39) + " = " + "{".repeat(39) + "[0] = 1" + "}".repeat(39) + main, 0);
    Bench.exits("int y" + "[1]".repeat(38) + " = " + "{".repeat(38) + "[(0)] = (1)" + "}".repeat(38) + main, 0);
    Bench.faults("int y" + "[1]".repeat(38) + " = " + "{".repeat(38) + "[(\n(0))] = 1" + "}".repeat(38) + main, 5, 2);
    Bench.faults("int y" + "[1]".repeat(38) + " = " + "{".repeat(38) + "[0] = ((\n(1)))" + "}".repeat(38) + main, 5, 2);
    Bench.exits("struct { int a; } y = " + "{ .a = " + "(".repeat(39) + "1" + ")".repeat(39) + " }" + main, 0);
  }

  private static void depthThatAddsUp() {
    Bench.exits("int x, a[9]; int f(int n) { return n; } int main(void) { { if (1) { return f(a[f(-(1 ? x = 0, 3 : 2) + 3)] + (int)sizeof(int)); } } }", 4);
    // 1 body, 2 if, 3 {, 4 (, 5 prefix, 6 cast's operand, 7 index, 8 assignment, 9 ?:, and 31 brackets.
    String open = "int x, a[9]; int main(void) { if (1) { (-(int)a[x = 1 ? ";
    String close = " : 0]); } return 0; }";
    Bench.exits(open + "(".repeat(31) + "2" + ")".repeat(31) + close, 0);
    Bench.faults(open + "(".repeat(31) + "\n(2)" + ")".repeat(31) + close, 5, 2);
  }

  /** "Depth is looked at where what is deeper begins: of faults 3 and 5 the one at the earlier token comes." */
  private static void threeBeforeFive() {
    Bench.faults("int x =\n)\n" + "(".repeat(41) + "1;", 3, 2);
    Bench.faults("int x =\n" + "(".repeat(41) + "\n)", 5, 2);
    Bench.faults("int x = " + "(".repeat(40) + "\n)", 3, 2);
    Bench.faults("int x = " + "(".repeat(40) + "1\n(", 5, 2);
    Bench.faults("int x = " + "(".repeat(40) + "1\n1", 3, 2);
    Bench.faults("int main(void) { " + "{".repeat(39) + "\nint\n{", 3, 3);
    Bench.faults("int main(void) { " + "{".repeat(39) + "if\n{", 3, 2);
    Bench.faults("int main(void) { " + "{".repeat(39) + "if\n(", 5, 2);
    Bench.faults("int main(void) { " + "{".repeat(39) + "else\n(", 3, 1);
    Bench.faults("int main(void) { " + "if (1) ".repeat(39) + "\n}", 3, 2);
    Bench.faults("int main(void) { " + "if (1) ".repeat(39) + "\nif\n}", 3, 3);
    Bench.faults("int main(void) { " + "if (1) ".repeat(39) + "if (1)\n}", 5, 1);
    Bench.faults("int main(void) { " + "if (1) ".repeat(38) + "if (1)\n}", 3, 2);
    Bench.faults("int main(void) { " + "do ".repeat(40) + "\n}", 3, 2);
    Bench.faults("int main(void) { " + "do ".repeat(40) + "\nint x;", 3, 2);
    Bench.faults("int main(void) { " + "do ".repeat(40) + "\nelse", 3, 2);
    Bench.faults("int main(void) { " + "do ".repeat(40) + "\nwhile", 5, 2);
    Bench.faults("int main(void) { " + "do ".repeat(40) + "\ncase", 5, 2);
    Bench.faults("int main(void) { " + "do ".repeat(40) + "\ndefault", 5, 2);
    Bench.faults("int main(void) { return " + "(".repeat(39) + "-\n;", 3, 2);
    Bench.faults("int main(void) { return " + "(".repeat(39) + "-\nint", 3, 2);
    Bench.faults("int main(void) { return " + "(".repeat(39) + "-\n*", 5, 2);
    Bench.faults("int main(void) { return " + "(".repeat(39) + "x =\n=", 3, 2);
    Bench.faults("int main(void) { return " + "(".repeat(39) + "x =\n&", 5, 2);
    Bench.faults("int main(void) { return " + "(".repeat(39) + "x ?\n:", 3, 2);
    Bench.faults("int " + "*".repeat(41) + "\n;", 3, 2);
    Bench.faults("int " + "*".repeat(41) + "\n3;", 3, 2);
    Bench.faults("int " + "*".repeat(41) + "\nx;", 5, 2);
    Bench.faults("int " + "*".repeat(41) + "\n(", 5, 2);
    Bench.faults("int " + "*".repeat(40) + "\n*\nx;", 5, 3);
    for (String operand : new String[] {"!x", "++x", "--x", "~x", "&x", "*x", "+x", "-x", "sizeof x", "(x)", "1", "1.5", "'a'", "\"a\"", "x", "va_arg(x, int)", "(int)x"}) {
      for (String sign : new String[] {"- ", "!", "~", "sizeof ", "x = ", "x ? ", "(int)"}) {
        // A cast is no operand of sizeof, so its ( is what is too deep.
        Bench.faults("int main(void) { return " + "(".repeat(sign.equals("(int)") ? 38 : 39) + sign + (sign.equals("(int)") ? "- " : "") + "\n" + operand, 5, 2);
      }
    }
    // Where the text ends nothing begins.
    for (String open : new String[] {"- ", "!", "sizeof ", "x = ", "x ? ", "++", "--", "~", "*", "&"}) {
      Bench.faults("int main(void) { return " + "(".repeat(39) + "\n" + open, 3, 2);
      Bench.faults("int main(void) { return " + "(".repeat(39) + "\n" + open + "\n)", 3, 3);
    }
    Bench.faults("int main(void) { " + "do ".repeat(39) + "\ndo", 3, 2);
    Bench.faults("int " + "*".repeat(40) + "\n*", 3, 2);
    Bench.faults("int x = sizeof(int " + "*".repeat(40) + "\nx);", 3, 2);
    Bench.faults("int x = sizeof(int " + "*".repeat(40) + "\n(*));", 5, 2);
    Bench.faults("int f(int " + "*".repeat(40) + "\nx);", 5, 2);
    Bench.faults("int f(int " + "*".repeat(40) + "\n)\n(;", 3, 3);
    Bench.faults("int main(void) { return " + "(".repeat(39) + "(\nint)x", 5, 1);
    Bench.faults("int main(void) { return " + "(".repeat(39) + "\n(\nint)x", 5, 2);
    Bench.faults("(".repeat(50), 3, 1);
    Bench.faults("int x = " + "(".repeat(41), 5, 1);
    Bench.faults("int x = " + "(".repeat(40), 3, 1);
  }

  /** "each identifier declared with typedef, from the end of its declarator to the end of its block (or the unit)" */
  private static void typedefFromItsDeclarator() {
    Bench.exits("typedef char T; int main(void) { typedef int T[sizeof(T) + 1]; return sizeof(T); }", 8);
    Bench.exits("typedef char T, U[sizeof(T) * 3]; int main(void) { return sizeof(U); }", 3);
    Bench.exits("typedef struct s { struct s *n; } T, *U; T a; U b = &a; int main(void) { return sizeof(T) + sizeof(U); }", 8);
    Bench.faults("typedef struct s {\n T *n; } T;", 3, 2);
    Bench.faults("T x;\ntypedef int T;", 3, 1);
    Bench.faults("typedef int (*T)(T);", 3, 1);
    Bench.exits("typedef char T; int main(void) { typedef int (*T)(T); T f = 0; return sizeof f; }", 4);
    Bench.exits("int main(void) { typedef int T; { T x = 3; { T y = x; return y; } } }", 3);
    Bench.exits("int main(void) { for (typedef char T; ; ) { T x = 3; return x + sizeof(T); } }", 4);
    Bench.faults("int main(void) { for (typedef char T; 0; ) { }\nT\nx; }", 3, 3);
    Bench.faults("int f(typedef int T,\nT x);\n", 4, 1);
    Bench.faults("int f(void) { typedef int T; }\nT x;", 3, 2);
    Bench.faults("int f(void) { { typedef int T; }\nT\nx; }", 3, 3);
    Bench.exits("int main(void) { int typedef T; T x = 5; return x; }", 5);
  }

  /** "except where a declaration of the same identifier as something else (variable, function, parameter, enumerator) hides it, from the end of that declarator or enumerator" */
  private static void hiddenFromItsDeclarator() {
    String t = "typedef char T; ";
    Bench.exits(t + "int main(void) { int T = sizeof(T), x = sizeof(T) * 16; return T + x; }", 4 + 64);
    Bench.exits(t + "int main(void) { int T[sizeof(T) + 2]; return sizeof(T); }", 12);
    Bench.exits(t + "int main(void) { enum { T = sizeof(T), U = sizeof(T) }; return T * 16 + U; }", 20);
    Bench.exits(t + "int main(void) { enum { U = sizeof(T), T }; return T * 16 + U; }", 33);
    Bench.faults(t + "int main(void) { int T(int);\n T\n x; }", 3, 3);
    Bench.exits(t + "int f(int a[sizeof(T)], int T, int b[sizeof(T)]) { return T; } int main(void) { return f(0, 3, 0); }", 3);
    Bench.exits(t + "int f(T T) { return sizeof T; } int main(void) { return f(3); }", 1);
    Bench.faults(t + "int f(T T,\nT x);", 3, 2);
    Bench.faults(t + "int f(int T,\nT x);", 3, 2);
    Bench.exits(t + "int f(int (*g)(int T), T x) { return sizeof x; } int main(void) { return f(0, 1); }", 1);
    Bench.exits(t + "int f(int T); T x = 3; int main(void) { return x; }", 3);
    Bench.exits(t + "int main(void) { for (int T = 2; T > 0; T--) ; T x = 3; return x; }", 3);
    Bench.exits(t + "int main(void) { for (int T = 2; T > 1; T--) return T * 4; }", 8);
    Bench.exits(t + "int main(void) { { int T = 1; T = 2; } T x = 3; return x; }", 3);
    Bench.exits(t + "struct { int a; } T2; int main(void) { int x = sizeof(enum { T }) + T; return x; }", 4);
    Bench.exits(t + "int main(void) { static int T = 3; return T; }", 3);
    Bench.exits(t + "int main(void) { extern int T2; return T2; } int T2 = 4; T y;", 4);
    Bench.faults(t + "int main(void) { extern int T;\nT\nx; }", 3, 3);
  }

  /** "to the end of its block. Parameters of a definition, and its body, are one block; so are a { }, a for with its statement, and the parameters of any other declarator, up to their )." */
  private static void toTheEndOfItsBlock() {
    String t = "typedef char T; ";
    Bench.faults(t + "int f(int T) {\n T\n x; }", 3, 3);
    Bench.exits(t + "int f(int T) { return T; } T x = 3; int main(void) { return f(1) + x; }", 4);
    Bench.exits(t + "int (*f(int T))(T x); int (*f(int U))(char x) { return 0; } int main(void) { return 3; }", 3);
    Bench.exits(t + "int (*f(int T))(T x) { T = 3; return 0; } int main(void) { return f(3) == 0; }", 1);
    Bench.exits(t + "int (*f(int a))(int T) { T x = 3; return 0; } int main(void) { return f(3) == 0; }", 1);
    Bench.exits(t + "int f(int g(int T)) { T x = 3; return x; } int main(void) { return f(0); }", 3);
    Bench.exits(t + "int main(void) { int g(int T); T x = 3; return x; }", 3);
    Bench.exits(t + "int main(void) { int x = sizeof(int (*)(int T)) + sizeof(T); return x; }", 5);
    Bench.exits(t + "int a[sizeof(int (*)(int T))], b = sizeof(T); int main(void) { return b; }", 1);
    Bench.exits(t + "struct { int (*f)(int T); T x; } s; int main(void) { return sizeof s.x; }", 1);
    Bench.exits(t + "int main(void) { if (1) { int T = 4; T++; } T x = 3; return x; }", 3);
    Bench.exits(t + "int main(void) { for (int T = 0; T < 1; T++) { T: ; } T x = 3; return x; }", 3);
    Bench.faults(t + "int main(void) { for (int T = 0; T < 1; T++)\n T\n x; }", 3, 3);
    Bench.faults(t + "int main(void) { int T; {\n T\n x; } }", 3, 3);
    Bench.exits(t + "int main(void) { { enum { T }; } { T x = 3; return x; } }", 3);
    // An enumerator in a type name belongs to the block around.
    Bench.faults(t + "int main(void) { sizeof(enum { T });\n T\n x; }", 3, 3);
    Bench.faults(t + "int f(enum { T } a,\n T x);", 3, 2);
    Bench.exits(t + "int f(enum { T } a); T x = 3; int main(void) { return x; }", 3);
  }

  /** "Labels, tags and members hide nothing." */
  private static void hideNothing() {
    String t = "typedef char T; ";
    Bench.exits(t + "int main(void) { T: ; T x = 3; goto U; U: return x; }", 3);
    Bench.exits(t + "struct T { int T; } y; T x = 3; int main(void) { y.T = x; return y.T + sizeof(struct T); }", 7);
    Bench.exits(t + "union T { int U; T T; }; enum U { A }; T x = 3; int main(void) { union T y = { 4 }; return (&y)->T + x; }", 7);
    Bench.exits(t + "int main(void) { goto T; T: return 3; }", 3);
    Bench.exits(t + "struct { T T, a; } y = { .T = 3, .a = 4 }; int main(void) { return y.T + y.a; }", 7);
  }

  /** "a TYPEDEF NAME .. if no type word, struct, union, enum or typedef name stood in these specifiers before" */
  private static void typeWordBefore() {
    String t = "typedef char T; ";
    Bench.exits(t + "int main(void) { int T = 3; { long T = 4; return T; } }", 4);
    Bench.exits(t + "int main(void) { const T T = 3; return T; }", 3);
    Bench.exits(t + "int main(void) { T const x = 3; static T y; const static T volatile z; return x; }", 3);
    Bench.exits(t + "int main(void) { unsigned T = 3; return sizeof T; }", 4);
    Bench.exits(t + "int main(void) { struct s { int a; } T = { 3 }; return sizeof T; }", 4);
    Bench.exits(t + "int main(void) { enum { A } T = 3; return T; }", 3);
    Bench.exits(t + "typedef int U; int main(void) { U T = 3; return sizeof T; }", 4);
    Bench.exits(t + "int main(void) { long long T = 3; return sizeof T; }", 8);
    Bench.faults(t + "int main(void) {\n T T T; }", 3, 2);
    Bench.faults(t + "\nT unsigned x;\nint main(void) { return 0; }", 4, 2);
    Bench.exits(t + "int f(T), g(T x), h(int T), i(int (T)); int i(int (*p)(char)) { return 3; } int main(void) { return i(0); }", 3);
    Bench.exits(t + "int f(int (x)) { return x; } int main(void) { return f(3); }", 3);
    Bench.exits(t + "int f(T (x)) { return sizeof x; } int main(void) { return f(3); }", 1);
    Bench.exits(t + "int g(T); int f(int x(T)) { return sizeof x; } int main(void) { return f(g); } int g(T a) { return 0; }", 4);
    Bench.faults("typedef char T; int x = sizeof(int\nT);", 3, 2);
    Bench.faults("typedef char T; int x = sizeof(int\n(T);", 3, 2);
    Bench.exits("typedef char T; int x = sizeof(int (*)(T)); int main(void) { return x; }", 4);
  }

  /** "item: a declaration .. if it begins with a word of specifiers, or with a typedef name that no : follows; else a statement." */
  private static void itemsAndLabels() {
    String t = "typedef int T; ";
    Bench.exits(t + "int main(void) { T: ; return 3; }", 3);
    Bench.exits(t + "int main(void) { T x = 1; T : x = 2; T y = 3; return x + y; }", 5);
    Bench.exits(t + "int main(void) { T(x) = 4; T *y = &x; T z[1] = { *y }; return *z; }", 4);
    Bench.faults(t + "int main(void) { T\n+ 1; }", 3, 2);
    Bench.faults(t + "int main(void) { T\n. x; }", 3, 2);
    Bench.exits(t + "int main(void) { T; return 2; }", 2);
    Bench.faults(t + "int main(void) { if (1)\nT\n; }", 3, 3);
    Bench.faults(t + "int main(void) { l:\nT\nx; }", 3, 3);
    Bench.faults(t + "int main(void) { l:\nint\nx; }", 3, 2);
    Bench.faults(t + "int main(void) { int\n:\n3; }", 3, 2);
    Bench.faults(t + "int main(void) { const\n:\n3; }", 3, 2);
    Bench.faults(t + "int main(void) { static\n:\n3; }", 3, 2);
    Bench.faults(t + "int main(void) { (\nT\n+ 1); }", 3, 3);
    Bench.faults(t + "int main(void) { 1 +\nT\n; }", 3, 2);
    Bench.exits(t + "int main(void) { return (T) + 3 + (T) - 1 + (T)2 + sizeof(T); }", 3 - 1 + 2 + 4);
    Bench.exits(t + "int main(void) { int T = 3; return (T) + 3 + (T) - 1; }", 8);
  }

  /** "at the end of the text that of the last token, 1 if there is none" */
  private static void endOfTheText() {
    Bench.faults("", 4, 1);
    Bench.faults("\n\n\n", 4, 1);
    Bench.faults("\n\n// nothing\n#define X\n", 4, 1);
    Bench.faults("int\n\n", 3, 1);
    Bench.faults("\nint main(void) {\n\n\nreturn 0;\n\n\n", 3, 5);
    Bench.faults("int x\n=\n\n", 3, 2);
    Bench.faults("int x\n=\n5\n\n", 3, 3);
    Bench.faults("int f(int\n\n", 3, 1);
    Bench.faults("struct s {\nint a;\n\n", 3, 2);
    Bench.faults("#define X int x =\n\n\nX\n\n", 3, 4);
    new Bench().header("h", "\nint x\n").source("#include \"h\"\n\n").refused("the last token in a header", 3, 2, 1);
    Bench.faults("int x;\n\nint y;\n\n", 4, 3);
  }

  /** "what stands before such a sign must be a unary" */
  private static void unaryBeforeAssignment() {
    String[] right = {"x = 1", "*p = 1", "x++ = 1", "-x = 1", "!x = 1", "++x = 1", "sizeof x = 1", "sizeof(int) = 1", "(x) = 1", "(x, x) = 1", "(x ? x : x) = 1", "f(1) = 1", "1 = 1", "\"a\" = 1", "x = x = 1", "x = *p = 1", "-(int)x = 1", "&x = p",
        "x[p] = 1", "(int)x, x = 1", "a[1] += 1", "x ? x = 1 : 0", "x ? x : x, x = 1", "~x = 1", "+x = 1", "--x = 1"};
    for (String text : right) {
      Bench b = new Bench().source("int x, *p, a[9]; int f(int n) { return n; } int main(void) { " + text + "; return 0; }");
      int code = b.x.compile();
      Bench.due("no fault 3: " + text, code == 4 ? 0 : code, 0);
    }
    String[] wrong = {"x + 1 @= 1", "(int)x @= 1", "x ? x : x @= 1", "x * x @+= 1", "x || x @= 1", "x & x @&= 1", "(int)(x) @= 1", "x = x + 1 @= 1", "x = (int)x @= 1", "1 + x @= 1", "x < x @= 1", "x == x @*= 1", "(char)-x @|= 1", "x - -x @= 1", "(int)*p @= 1",
        "x ? 1 : -x @= 1", "x = x ? x : x @= 1"};
    for (String text : wrong) {
      Bench.faults("int x, *p; int main(void) { " + text.replace("@", "\n") + "; }", 3, 2);
    }
  }

  /** "x, .. one or more with commas between", "[,]" */
  private static void commasAndEnds() {
    for (String right : new String[] {"enum { A }", "enum { A, }", "enum { A, B }", "enum { A, B, }", "int a[1] = {}", "int a[1] = { 1 }", "int a[1] = { 1, }", "int a[2] = { 1, 2, }", "int a, b, c", "int f(int, int)", "int f(void)", "int f()", "int f(int, ...)",
        "struct { int a, b; }", "int", "struct s"}) {
      Bench.exits(right + "; int main(void) { return 0; }", 0);
    }
    for (String wrong : new String[] {"enum { @}", "enum { @, }", "enum { A, @, }", "int a[1] = { @, }", "int a[1] = { 1, @, }", "int a, @", "int @, a", "int f(int, @)", "int f(@, int)", "int f(int, @, int)", "int f(@...)", "int f(int, ... @, int)", "int f(int @...)",
        "struct { int a, @; }", "struct { int @; }", "struct { int a @}", "int a @a", "@, int a", "int f(void @5)", "int f(int, ... @int)"}) {
      Bench.faults(wrong.replace("@", "\n") + ";", 3, 2);
    }
    for (String wrong : new String[] {"f(@,)", "f(1,@)", "f(1 @1)", "f(1@;", "a[@]", "a[1@;", "(@)", "(1,@)", "1,@", "x ? 1 @;", "x ? @: 1", "x ? 1 : @", "x.@1", "x->@;", "sizeof @", "sizeof(@)", "(int@;", "1 @2", "x @y", "@)", "@]", "goto @;", "goto @1", "return @]",
        "break @1", "continue @x", "if @;", "if (@)", "if (1@;", "while (1@;", "do ; @;", "do ; while @;", "do ; while (1) @}", "for @;", "for (1@)", "for (;@)", "for (;;@;)", "switch @x", "case @:", "case 1@;", "default @;", "int x@}", "struct @;", "enum @;"}) {
      Bench.faults("int main(void) { " + wrong.replace("@", "\n") + ";", 3, 2);
    }
  }

  /** "va_arg ( assignment , type name )"; "va_arg is no identifier anywhere: where it stands otherwise than as told, fault 3". */
  private static void vaArg() {
    for (String wrong : new String[] {"va_arg @;", "va_arg @= 1", "va_arg(@)", "va_arg(x@)", "va_arg(x, @)", "va_arg(x, @1)", "va_arg(x, int @y)", "va_arg(x, int @, int)", "va_arg(@int, x)", "va_arg(x@; int)", "int @va_arg", "x.@va_arg", "x->@va_arg",
        "goto @va_arg", "va_arg @: ;", "struct @va_arg { int a; } s", "enum { @va_arg }", "typedef int @va_arg", "va_arg(x, @y)", "sizeof va_arg@;", "(va_arg@)(x, int)"}) {
      Bench.faults("int main(void) { " + wrong.replace("@", "\n") + "; }", 3, 2);
    }
    Bench.exits("#define va_arg 3\nint main(void) { return va_arg; }", 3);
    Bench.exits("int f(int n, ...) { va_list a; va_start(a, n); return va_arg(a, int) + va_arg(*&a, int) + -va_arg(a, long) + sizeof va_arg(a, int); } int main(void) { return f(0, 5, 6, 1); }", 14);
    Bench.faults("int f(int n, ...) { va_list a, b; va_start(a, n);\nreturn va_arg(b = a, int); } int main(void) { return 3; }", 4, 2);
  }

  /** "specifiers declarator { item* } (a function; the declarator, with its * left out, ends with a ( ) of parameters)" */
  private static void definitions() {
    Bench.exits("int *f(void) { return 0; } int **g(int a) { return 0; } int (*h(void))(int) { return 0; } int main(void) { return 3; }", 3);
    for (String wrong : new String[] {"int f @{", "int *f @{", "int (f) @{", "int (f(void)) @{", "int (*f)(void), g(void) @{", "int f(void), g(void) @{", "int f(void)[3] @{", "int f[3] @{", "int (*f(void))[3] @{", "int f(void); @{", "int f(void) = 1 @{",
        "int @{", "int x = 1 @{", "typedef int f; f g @{", "enum { @} {", "int f(void) { return 0; } @}", "int main(void) { int f(void) @{", "int main(void) { for (int f(void) @{", "int f(int g(void) @{", "struct { int f(void) @{"}) {
      Bench.faults(wrong.replace("@", "\n") + " return 0; }", 3, 2);
    }
    // Of these the syntax is right: they are no functions, or their ( ) does not stand behind their name.
    Bench.faults("int (*f)(void)\n{ return 0; }\nint main(void) { return 0; }", 4, 1);
    Bench.faults("int (f)(void)\n{ return 0; }\nint main(void) { return 0; }", 4, 1);
    Bench.faults("int (*f[3])(void)\n{ return 0; }\nint main(void) { return 0; }", 4, 1);
    Bench.faults("int ((*f(void)))(void)(void)\n{ return 0; }\nint main(void) { return 0; }", 4, 1);
    Bench.exits("int (*f(void))(void) { return 0; }\nint main(void) { return 3; }", 3);
  }

  /** "an else belongs to the nearest if" */
  private static void nearestIf() {
    for (int i = 0; i < 4; i++) {
      int a = i & 1;
      int b = i >> 1;
      int due = a == 1 ? b == 1 ? 1 : 2 : 3;
      Bench.exits("int main(void) { if (" + a + ") if (" + b + ") return 1; else return 2; return 3; }", due);
      Bench.exits("int main(void) { if (" + a + ") while (1) if (" + b + ") return 1; else return 2; return 3; }", due);
      Bench.exits("int main(void) { if (" + a + ") { if (" + b + ") return 1; } else return 2; return 3; }", a == 0 ? 2 : b == 1 ? 1 : 3);
      Bench.exits("int main(void) { if (" + a + ") do if (" + b + ") return 1; while (0); else return 2; return 3; }", a == 0 ? 2 : b == 1 ? 1 : 3);
    }
    Bench.faults("int main(void) { if (1) ; ;\nelse ; }", 3, 2);
    Bench.faults("int main(void) { if (1) ; else ;\nelse ; }", 3, 2);
    Bench.faults("int main(void) { while (1) ;\nelse ; }", 3, 2);
  }
}
