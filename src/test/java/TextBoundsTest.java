/** The boundary cases of section 2 (texts, pieces, directives, conditions, replacing), sentence by sentence. */
public final class TextBoundsTest {
  private static final String MAIN = "\nint main(void) { return 0; }\n";

  public static void main(String[] args) {
    orderOverAText();
    trigraphs();
    joinedLines();
    comments();
    endsOfTexts();
    constantsInComments();
    linesOfThings();
    numbers();
    constants();
    signs();
    spaced();
    directiveLines();
    defining();
    definingAgain();
    namesThatStay();
    bodies();
    undefining();
    including();
    standardNames();
    textsInOneAnother();
    branches();
    branchesNotKept();
    behindElse();
    nothingBehind();
    otherDirectives();
    definedFirst();
    whatAConditionHas();
    conditionShifts();
    conditionLazy();
    conditionDepth();
    hiddenNames();
    arguments();
    numberOfArguments();
    strings();
    pastes();
    rowsOfPastes();
    spacing();
    placeNames();
    predefined();
    linesOfFaults();
    argumentsInArguments();
    Bench.finish();
  }

  /** What a row of pieces becomes, as a string made by #. */
  private static void becomes(String directives, String row, String want) {
    Bench.writes(directives + "\n#define STR(...) #__VA_ARGS__\n#define XSTR(...) STR(__VA_ARGS__)\n"
        + "int main(void) { fputs(XSTR(" + row + "), stdout); }\n", want);
  }

  private static void right(String source) {
    Bench.exits(source + MAIN, 0);
  }

  private static void wrong(String source, int line) {
    Bench.faults(source, 1, line);
  }

  /** "In this order over a text: bytes 13 are dropped; the nine trigraphs ..; a \ with a byte 10; then .. a comment". */
  private static void orderOverAText() {
    Bench.exits("int main(void) { return sizeof \"?\r?\r=\"; }", 2);
    Bench.exits("int main(void) { return 1 ?\r?/\r\n+ 2; }", 3);
    Bench.exits("int main(void) { return 1 /\\\n* + 5 *\\\n/ + 2; }", 3);
    Bench.exits("int main(void) { return 1 /??/\n/ + 5\n + 2; }", 3);
    // A \ that stands before a 10 only when another is dropped is none that is dropped.
    wrong("int x;\\\\\n\n", 1);
    Bench.exits("int main(void) { return sizeof \"?\\\n?=\"; }", 4);
    // What comes of dropping a \ makes no trigraph any more, a 13 does.
    Bench.exits("int main(void) { return sizeof \"?\r?=\"; }", 2);
    Bench.exits("int main(void) { return 4 /\r/ 2\n; }", 4);
  }

  /** "the nine trigraphs ??= ??( ??/ ??) ??' ??< ??! ??> ??- become # [ \ ] ^ { | } ~ (from the left)". */
  private static void trigraphs() {
    Bench.writes("int main(void) { fputs(\"??= ??( ??/??/ ??) ??' ??< ??! ??> ??-\", stdout); }", "# [ \\ ] ^ { | } ~");
    StringBuilder others = new StringBuilder();
    for (char c = 32; c < 127; c++) {
      if ("=(/)'<!>-\"\\".indexOf(c) < 0) {
        others.append("??").append(c).append(' ');
      }
    }
    Bench.writes("int main(void) { fputs(\"" + others + "\", stdout); }", others.toString());
    Bench.writes("int main(void) { fputs(\"???= ????= ???? ?= ??\", stdout); }", "?# ??# ???? ?= ??");
    Bench.exits("int main(void) { return 1; } //??", 1);
    Bench.exits("int main(void) { return 1; } //??/\n } } int", 1);
    Bench.exits("int main(void) { return 1; } //?/\n", 1);
  }

  /** "a \ with a byte 10 right behind it is dropped with it (lines go on being counted as in the text)". */
  private static void joinedLines() {
    Bench.exits("int main(void) { ret\\\nurn __LI\\\n\\\nNE__; }", 2);
    wrong("int x;\\ \n", 1);
    wrong("int x; \\", 1);
    Bench.exits("int main(void) { return 3; } \\\n", 3);
    Bench.exits("#define A 1 \\\n + \\\n 2\nint main(void) { return A * __LINE__; }", 9);
    Bench.faults("\\\n\\\nint x = 1\\\n2 )", 3, 4);
    wrong("#def\\\nine X\n#\\\nerror", 3);
    Bench.exits("#\\\ndefine X 3\nint main(void) { return X; }", 3);
  }

  /** "a comment (slash star up to the next star slash; or slash slash up to before the next 10 or the end) becomes a blank". */
  private static void comments() {
    becomes("", "a/**/b/***/c/* / * */d/*/*/e", "a b c d e");
    Bench.exits("int main(void) { return 6 /**// 2; }", 3);
    Bench.exits("int main(void) { return 6; /* // */ }", 6);
    Bench.exits("int main(void) { return 6; // /*\n}", 6);
    Bench.exits("int main(void) { return 6 //\n; } //", 6);
    Bench.exits("int main(void) { return 6; } /**/", 6);
    wrong("int x; /*", 1);
    wrong("int x; /**", 1);
    wrong("int x;\n/*/", 2);
    wrong("int x;\n\n/* *\n /\n", 3);
    wrong("int x; /* */ /\\\n* \n", 1);
    // Behind one that goes to the end of its line the lines are counted on.
    wrong("int x; // a\n`", 2);
    wrong("// a\n//\n//b\n`", 4);
    Bench.faults("// a\nint x // b\n// c\n) //", 3, 4);
    Bench.faults("/* a */\nint x /* b */\n/**/) ", 3, 3);
    // It is told before any directive of its text, and behind a byte that may not occur.
    wrong("#error\n/*", 2);
    wrong("/*\n\001", 2);
    right("#if 0\n// don't\n/* can't */\n#endif");
    new Bench().header("h", "/*").source("#error\n#include \"h\"").refused("a text that is not come to", 1, 1, 0);
    Bench.exits("#define X(a) #a[0]\nint main(void) { return X( //\n/* */ ) == 0; }", 1);
    becomes("#define F/**/(x) x", "F", "(x) x");
  }

  /** "outside of string and character constants"; "a constant that a 10 or the end stops is over there". */
  private static void constantsInComments() {
    Bench.exits("int main(void) { return sizeof \"/*\" + sizeof \"//\" + '/' - '/' + sizeof \"*/\"; }", 9);
    Bench.exits("int main(void) { return '\"' == 34 /* \" */; }", 1);
    Bench.exits("int main(void) { return '\\'' == 39 /* ' */; }", 1);
    Bench.exits("int main(void) { return sizeof \"\\\"/*\" /* \" */; }", 4);
    Bench.exits("int main(void) { return sizeof \"\\\\\" /* \" */; }", 2);
    right("#if 0\n ' /*\n \" // /*\n \"\\\n /*\n ' \\\\ /*\n#endif");
    right("#if 0\n \"\\\\\n /* */\n#endif");
    wrong("#if 0\n '\n /*\n#endif", 3);
    wrong("#if 0\n 'x'/*\n#endif", 2);
    right("#if 0\n don't /*\n#endif");
    right("#if 0\n '\"' don't /*\n#endif");
    right("#if 0\n \\\" /*\n#endif");
    right("#if 0\n \\' /*\n#endif");
    // The 10 stops it also behind a \ (which was not right before it in the text).
    wrong("#if 0\n \"a\\\\\n\n/*\n#endif", 4);
    right("#if 0\n \"a\\\\\n/*\n\n#endif");
  }

  /** "or the end": what stands at the very end of a text. */
  private static void endsOfTexts() {
    String seven = "int main(void) { return 7; }\n";
    for (String last : new String[] {"#", "# ", "#\t", " #", "\t# \t", "/**/#/**/", "#//", "#define X", "#undef X", "#pragma", "//", "/**/", "\\\n", "#if 0\n/\n#endif", "#if 1\n#else\n#\n#endif"}) {
      Bench.exits(seven + last, 7);
    }
    for (String last : new String[] {"/", "*", "-", "<", ">", ".", "..", "&", "|", "=", "!", "%", "^", "<<", ">>", "+", "1", "1.", "1e5", "'a'", "\"a\""}) {
      Bench.faults(seven + last, 3, 2);
    }
    for (String last : new String[] {"1e+", "1e", "0x", "##"}) {
      Bench.faults(seven + last, 2, 2);
    }
    for (String last : new String[] {"'", "\"", "'a", "\"a", "'\\", "\"\\", "'\\'", "\"\\\"", "\\", "`", "/*", "#if 1", "#define", "#undef", "#include", "#include <", "#include <a", "#include \"", "#error", "#line", "#1", "#endif", "#else", "#elif"}) {
      wrong(seven + last, 2);
    }
  }

  /** "The line of anything is that of its first byte in the text." */
  private static void linesOfThings() {
    Bench.faults("int x;\nunde\\\n\\\nclared y;", 3, 2);
    Bench.faults("int x;\nunde\\\n\\\nclared\ny;", 3, 2);
    Bench.faults("int x = 3 +\\\n\\\n\n/ ;\n)", 3, 4);
    Bench.faults("int x = 1 <\\\n< 2 <\\\n\\\n<\\\n= 3;", 3, 2);
    Bench.faults("int x = \"a\\\nb\" \"\\\n\\q\";", 2, 2);
    Bench.faults("int x; ??/\n??=", 2, 2);
    wrong("int x;\n \"a\\\nb\n\";", 2);
    wrong("int x;\n#\\\n\\\nerror", 2);
    wrong("int x;\n\\\n#error", 3);
    wrong("int x;\n/*\n\n*/ #error", 4);
  }

  /** "NUMBER (a digit, or . and a digit; then as many as possible of: e E p P with + or - behind it, letters, digits, _ and .)". */
  private static void numbers() {
    becomes("#define e5 no\n#define x no\n#define _ no", "1e5 1e+5 1x 1_ 1.x 1e+e5 .5x", "1e5 1e+5 1x 1_ 1.x 1e+e5 .5x");
    becomes("#define a 7", "1e+a 1E-a 1p+a 1P-a 1f+a .a 1.a", "1e+a 1E-a 1p+a 1P-a 1f+7 .7 1.a");
    Bench.exits("int main(void) { return 0xf+1; }", 16);
    Bench.faults("int x = 0xe+1;", 2, 1);
    Bench.faults("int x = 0xE-1;", 2, 1);
    Bench.faults("int x = 0xe +1; int y = 1p+1;", 2, 1);
    Bench.exits("int main(void) { return 0xe +1; }", 15);
    Bench.exits("struct { int e1; } s = { 4 }; int main(void) { return s.e1; }", 4);
    Bench.faults("int x = 1..2;", 2, 1);
    Bench.faults("int x = . 5;", 3, 1);
  }

  /** "CHARACTER ' .. ' and STRING \" .. \" (a \ and the byte behind it belong together; a 10 or the end inside: fault)". */
  private static void constants() {
    Bench.exits("int main(void) { return '\\\\' == 92 && '\\'' == 39 && '\"' == 34 && sizeof \"'\" == 2 && sizeof \"\\\"\" == 2; }", 1);
    wrong("int x;\nint y = '\\'\n;", 2);
    wrong("int x;\nchar *y = \"\\\"\n;", 2);
    wrong("int x;\nint y = '\\", 2);
    wrong("int x;\nint y = '", 2);
    wrong("int x;\nint y = 'a", 2);
    wrong("int x;\nchar *y = \"", 2);
    wrong("int x;\nchar *y = \"a\n\"", 2);
    wrong("int x;\nchar *y = \"a\\\\", 2);
    Bench.faults("int x = '';", 2, 1);
    Bench.exits("int main(void) { return sizeof \"\" + \"\"[0]; }", 1);
    wrong("#define X '\n", 1);
    wrong("#undef X\n#pragma \"\n", 2);
  }

  /** "the SIGNS, the longest that fits"; "any other byte: fault". */
  private static void signs() {
    String[] all = {"[", "]", "(", ")", "{", "}", ".", "->", "++", "--", "&", "*", "+", "-", "~", "!", "/", "%", "<<", ">>", "<", ">", "<=", ">=", "==", "!=",
        "^", "|", "&&", "||", "?", ":", ";", "...", "=", "*=", "/=", "%=", "+=", "-=", "<<=", ">>=", "&=", "^=", "|=", ",", "#", "##"};
    StringBuilder row = new StringBuilder("x");
    for (String sign : all) {
      if (!sign.equals("(") && !sign.equals(")")) {
        row.append(' ').append(sign);
      }
    }
    becomes("", row.toString(), row.toString());
    Bench.exits("int main(void) { int a = 5, b = 2; return a+++b + a---b; }", 7 + 4);
    Bench.exits("int main(void) { int a = 8; a<<=1; a>>=2; a=a<<1>>2; return a<=2==1; }", 1);
    Bench.exits("int main(void) { int a = 8, *p = &a; return a/ *p+1&&*p; }", 1);
    Bench.exits("int main(void) { int a = 8, *p = &a; return a-->7&&*p==7; }", 1);
    Bench.faults("int f(int, ..);", 3, 1);
    Bench.faults("int f(int, ....);", 3, 1);
    Bench.faults("int x = 1 <<<2;", 3, 1);
    Bench.faults("int x = 5+++++;", 3, 1);
    Bench.faults("int x = 5+++++1;", 4, 1);
    for (char c : "@$`\\".toCharArray()) {
      wrong("int x;\nint y; " + c + " \n#error", 2);
      wrong("#define X " + c + " \n", 1);
    }
  }

  /** "A piece knows whether a blank, a comment or a new line stands right before it (SPACED)." */
  private static void spaced() {
    becomes("", "a b\tc/**/d\ne\\\nf \\\n g", "a b c d ef g");
    becomes("", "a+b + c", "a+b + c");
    becomes("", "f(a ,b, c)", "f(a ,b, c)");
    Bench.writes("#define F\t(x) x\n#define G(x) <x>\n#define S(x) #x\n#define T(x) S(x)\nint main(void) { puts(T(F G(1))); }", "(x) x <1>\n");
    Bench.writes("#define S(x) #x\nint main(void) { puts(S(a//\nb)); }", "a b\n");
    Bench.writes("#define S(x) #x\nint main(void) { puts(S(\n\na\n\n)); }", "a\n");
    Bench.writes("#define S(x) #x\nint main(void) { puts(S(a\r b\r+)); }", "a b+\n");
  }

  /** "A line whose first piece is # is a DIRECTIVE, up to its end. Other lines that follow each other .. form a GROUP." */
  private static void directiveLines() {
    right("\t # \t define X 1\n#if X != 1\n#error\n#endif");
    right("/* */ # /* */ define /* */ X /* */ 1 // \n#if X != 1\n#error\n#endif");
    Bench.faults("int x; # define Y\n", 2, 1);
    Bench.faults("#define H #\nH define Y\n", 2, 2);
    Bench.exits("#define F(x) x\nint main(void) { return F\n\n(\n1\n+ 2\n)\n; }", 3);
    wrong("#define F(x) x\nint main(void) { return F(\n#define Y\n1); }", 2);
    wrong("#define F(x) x\nint main(void) { return F(\n#\n1); }", 2);
    // A name at the end of its group is not followed by a (.
    Bench.faults("#define F(x) x\nint y = F\n#\n(1);" + MAIN, 4, 2);
    right("#define F(x) 1\nint F\n#define G\n;");
    right("#");
    right("#\n#\t\n# /* */\n# //");
  }

  /** "define NAME( parameters ) body, the ( right behind the name (not spaced): parameters are nothing, or names with commas .. of which the last may be ..." */
  private static void defining() {
    right("#define A\n#define B()\n#define C(a)\n#define D(a,b)\n#define E(...)\n#define F(a,...)\n#define G( a , b , ... )\n#define H( )");
    for (String bad : new String[] {"F(a", "F(a,", "F(a,)", "F(,a)", "F(,)", "F(a b)", "F(a,...", "F(...", "F(...,)", "F(..., a)", "F(a ...)", "F(a..., b)", "F(", "F(1)", "F(+)",
        "F(\"a\")", "F((a))", "F(a;b)", "F(a,a)", "F(a,b,a)", "F(__VA_ARGS__)", "F(a, __VA_ARGS__)", "F(a, __VA_ARGS__, ...)", "F(..)", "F(......)", "1", "+", "\"F\"", "(", "'a'"}) {
      wrong("int x;\n#define " + bad + "\n", 2);
    }
    right("#define F(__LINE__, __FILE__, defined, define, if)\n#define define\n#define include\n#define if 1\n#define endif");
    becomes("#define F(a) <a>\n#define G (a) <a>", "F(1) G(1)", "<1> (a) <a>(1)");
    becomes("#define F(a,b) a-b\n#define G(...) [__VA_ARGS__]\n#define H(a,...) a[__VA_ARGS__]", "F(1,2) G(1,2) H(1,2,3) H(1) H(1,)", "1-2 [1,2] 1[2,3] 1[] 1[]");
    becomes("#define F(a) __VA_ARGS__ a", "F(1)", "__VA_ARGS__ 1");
  }

  /** "A macro defined again must be of the same kind with the same parameters and the same pieces (by their spelling), else fault". */
  private static void definingAgain() {
    String[][] same = {{"A", "A"}, {"A 1", "A  1 "}, {"A a b", "A a/**/b"}, {"A a+b", "A a + b"}, {"A(x) x", "A( x )   x"}, {"A(x,y) x", "A( x , y ) x"}, {"A()", "A( )"},
        {"A(...) x", "A( ... ) x"}, {"A(x,...) y", "A(x, ...) y"}, {"A \"a b\"", "A \"a b\""}};
    String[][] other = {{"A", "A 1"}, {"A 1", "A"}, {"A 1", "A 2"}, {"A 1", "A 1 1"}, {"A 1", "A 01"}, {"A", "A()"}, {"A()", "A"}, {"A (x) x", "A(x) x"}, {"A(x) x", "A(y) y"},
        {"A(x) 1", "A(y) 1"}, {"A(x) 1", "A() 1"}, {"A(x) 1", "A(x, y) 1"}, {"A(x) 1", "A(x, ...) 1"}, {"A(...) 1", "A() 1"}, {"A(x, y) x", "A(y, x) y"}, {"A ab", "A a b"},
        {"A +=", "A + ="}, {"A \"a b\"", "A \"a  b\""}, {"A 'a'", "A \"a\""}, {"A(x) #x", "A(x) x"}, {"A a ## b", "A a b"}};
    for (String[] two : same) {
      right("#define " + two[0] + "\n#define " + two[1]);
    }
    for (String[] two : other) {
      wrong("#define " + two[0] + "\n\n#define " + two[1], 3);
      right("#define " + two[0] + "\n#undef A\n#define " + two[1]);
    }
    becomes("#define A x + y\n#define A x+y", "A", "x + y");
    becomes("#define A x+y\n#define A x + y", "A", "x+y");
    right("#define NULL ( ( void * ) 0 )\n#define CHAR_BIT 8\n#define __STDC__ 1");
    wrong("#define CHAR_BIT 9", 1);
    wrong("#define __STDC__", 1);
    wrong("#define NULL() ((void*)0)", 1);
  }

  /** "defined, __LINE__, __FILE__ and __VA_ARGS__ can't be defined or undefined: fault." */
  private static void namesThatStay() {
    for (String name : new String[] {"defined", "__LINE__", "__FILE__", "__VA_ARGS__"}) {
      wrong("int x;\n#define " + name, 2);
      wrong("int x;\n#define " + name + " 1", 2);
      wrong("int x;\n#define " + name + "(x) 1", 2);
      wrong("int x;\n#undef " + name, 2);
    }
    right("#undef __STDC__\n#undef NULL\n#define NULL 0\n#undef if\n#define Defined\n#define __VA_ARGS\n#define __LINE\n#define va_arg\n#define main main\n#undef size_t");
  }

  /** "In a body ## at the beginning or end: fault; in one with parameters a # with no parameter (or __VA_ARGS__, if ... is there) behind it: fault." */
  private static void bodies() {
    for (String bad : new String[] {"A ##", "A ## a", "A a ##", "A ## a ##", "A() ##", "A(x) ## x", "A(x) x ##", "A(x) #", "A(x) # y", "A(x) #1", "A(x) ##x", "A(x) # #x", "A(x) x #",
        "A() # x", "A(x) # __VA_ARGS__", "A(...) # x", "A(x, ...) # ...", "A(x) #(x)", "A(x) # ## x", "A(x) a # ## x"}) {
      wrong("int x;\n#define " + bad, 2);
    }
    right("#define A #\n#define B # x\n#define C # #\n#define D # ## #\n#define E(x) # x\n#define F(x) #x#x\n#define G(...) #__VA_ARGS__\n#define H(x, ...) #x #__VA_ARGS__\n"
        + "#define I a ## b\n#define J(x) x ## x\n#define K(x) a ## #x\n#define L a ## ## b\n#define M(x) #x ## x");
    becomes("#define B # x", "B", "# x");
  }

  /** "undef NAME (nothing more; else fault): there is no such macro any more." */
  private static void undefining() {
    wrong("#undef", 1);
    wrong("#undef 1", 1);
    wrong("#undef A B", 1);
    wrong("#undef A ;", 1);
    wrong("#undef \"A\"", 1);
    right("#undef A\n#define A 1\n#undef A\n#ifdef A\n#error\n#endif\n#undef A /* */ // x");
    becomes("#define A 1\n#undef A\n#define B A\n#define A 2", "A B", "2 2");
    right("#define A(x) 1\n#undef A\nint A;");
  }

  /** "include STRING, or < up to the > (its bytes are the name)"; "behind that, or the STRING, only blanks, else fault". */
  private static void including() {
    String[] right = {"\"h\"", "<h>", "\"h\" \t", "<h> \t", "\"h\" /* c */", "<h> // c", "  \t<h>", "/**/\"h\"", "\"h\"//"};
    for (String form : right) {
      new Bench().header("h", "int x;").source("#include " + form + "\nint main(void) { return x; }").runs(form, 9, 0, 0);
    }
    String[] wrong = {"", "h", "\"h\" x", "<h> x", "<h>>", "<h", "\"h\" \"h\"", "\"h\"\"\"", "<h>\"\"", "'h'", "(\"h\")", "1", "< h>", "<h >", "\" h\"", "\"h \"", "<>", "\"\"", "<H>", "<h\\>", "<\"h\">"};
    for (String form : wrong) {
      new Bench().header("h", "int x;").source("\n#include " + form + "\n").refused(form, 1, 2, 0);
    }
    new Bench().header("h", "int x;").source("#define H \"h\"\n#include H\n").refused("a macro is another form", 1, 2, 0);
    new Bench().header("a>b", "int x;").source("#include \"a>b\"\nint main(void) { return x; }").runs("a>b", 9, 0, 0);
    new Bench().header("a", "int x;").source("\n#include <a>b>\nint main(void) { return x; }").refused("up to the first >", 1, 2, 0);
    new Bench().header("a\\\\", "int x;").source("#include <a\\\\>\nint main(void) { return x; }").runs("bytes as they are", 9, 0, 0);
    new Bench().header("a\\n", "int x;").source("#include \"a\\n\"\nint main(void) { return x; }").runs("an escape is none", 9, 0, 0);
    new Bench().header("`@", "int x;").source("#include <`@>\nint main(void) { return x; }").runs("nothing is cut", 9, 0, 0);
    new Bench().header("a", "int x;").source("\n\n#include <a> `\n").refused("a byte behind", 1, 3, 0);
    new Bench().header("h", "a X").source("#define X = 3\nint\n#include \"h\"\n; int main(void) { return a; }").runs("with the macros of that moment", 9, 0, 0);
    new Bench().header("h", "#define X 5\n#undef Y").source("#define Y\n#include \"h\"\n#ifdef Y\n#error\n#endif\nint main(void) { return X; }").runs("macros go on", 9, 0, 0);
    new Bench().header("h", "#ifdef H\nint b;\n#else\nint a;\n#endif").source("#include \"h\"\n#define H\n#include \"h\"\nint main(void) { return a + b; }").runs("twice", 9, 0, 0);
    new Bench().header("h", "").source("#include \"h\"\n#include \"h\"\n#include \"h\"" + MAIN).runs("nothing in it", 9, 0, 0);
  }

  /** "a name of the list stdio.h stdlib.h string.h ctype.h stdarg.h stddef.h limits.h that is no header: nothing. Any other name .. fault". */
  private static void standardNames() {
    for (String name : new String[] {"stdio.h", "stdlib.h", "string.h", "ctype.h", "stdarg.h", "stddef.h", "limits.h"}) {
      right("#include <" + name + ">\n#include \"" + name + "\"");
      new Bench().header(name, "\n#error").source("#include <" + name + ">").refused(name, 1, 2, 1);
      wrong("#include <" + name + "h>", 1);
      wrong("#include <" + name.substring(1) + ">", 1);
      wrong("#include \"" + name.substring(0, name.length() - 1) + "\"", 1);
    }
    for (String name : new String[] {"math.h", "stdbool.h", "stdint.h", "assert.h", "h", "stdio", "STDIO.H", "if", "defined", "[", "0", "1", "main", "size_t", "putchar", "putc", "strlen"}) {
      wrong("int x;\n#include <" + name + ">", 2);
      wrong("int x;\n#include \"" + name + "\"", 2);
    }
  }

  private static Bench chain(int headers) {
    Bench b = new Bench();
    for (int i = 1; i < headers; i++) {
      b.header("h" + i, "\n#include \"h" + (i + 1) + "\"\n");
    }
    return b;
  }

  /** "or the 16th text in one another: fault". */
  private static void textsInOneAnother() {
    chain(14).header("h14", "int x;").source("#include \"h1\"\nint main(void) { return x; }").runs("the 15th", 9, 0, 0);
    chain(14).header("h14", "\n\n#include <stdio.h>\nint x;").source("#include \"h1\"\nint main(void) { return x; }").runs("no text", 9, 0, 0);
    chain(15).header("h15", "").source("#include \"h1\"\n").refused("the 16th", 1, 2, 15 - 1);
    chain(15).header("h15", "\001").source("#include \"h1\"\n").refused("the 16th, not come to", 1, 2, 15 - 1);
    new Bench().header("h", "int X;\n").source("#define X a\n#include \"h\"\n#undef X\n#define X b\n#include \"h\"\n" + MAIN).runs("not in one another", 9, 0, 0);
    new Bench().header("h", "\n").source("#include \"h\"\n".repeat(40) + MAIN).runs("many, but not in one another", 9, 0, 0);
  }

  /** "if, ifdef, ifndef, elif, else, endif: as usual; they must match within one text". */
  private static void branches() {
    int[][] rows = {{1, 1, 1, 1}, {0, 1, 1, 2}, {0, 0, 1, 3}, {0, 0, 0, 4}, {1, 0, 0, 1}, {-1, 1, 0, 1}, {0, 2, 0, 2}};
    for (int[] row : rows) {
      becomes("#if " + row[0] + "\n#define A 1\n#elif " + row[1] + "\n#define A 2\n#elif " + row[2] + "\n#define A 3\n#else\n#define A 4\n#endif", "A", "" + row[3]);
    }
    becomes("#if 0\n#define A 1\n#elif 0\n#define A 2\n#endif", "A", "A");
    becomes("#ifdef X\n#define A 1\n#elif 1\n#define A 2\n#else\n#define A 3\n#endif\n#ifndef X\n#define B 1\n#elif 1\n#define B 2\n#else\n#define B 3\n#endif", "A B", "2 1");
    wrong("\n#else", 2);
    wrong("\n#elif 1", 2);
    wrong("\n#endif", 2);
    wrong("#if 1\n#endif\n#endif", 3);
    wrong("\n#if 1", 2);
    wrong("\n#ifdef X", 2);
    wrong("\n#ifndef X\n#else\n", 2);
    wrong("\n#if 0\n\n#if 1\n#endif\n#elif 1\n", 2);
    wrong("\n#if 0\n\n#if 1\n#elif 1\n", 4);
    wrong("\n#if 1\n\n#ifdef X\n#else\n", 4);
    new Bench().header("h", "\n#ifdef X\n").source("#if 1\n#include \"h\"\n#endif").refused("missing in a header", 1, 2, 1);
    new Bench().header("h", "\n#endif\n").source("#if 1\n#include \"h\"\n#endif").refused("wrong in a header", 1, 2, 1);
    new Bench().header("h", "#if 1\n#endif\n").source("#if 1\n#include \"h\"\n").refused("missing behind a header", 1, 1, 0);
    // What is told at the end of a text is told behind all in it.
    wrong("#if 1\n#error\n", 2);
    Bench.faults("#if 1\nint x = 08;\n", 1, 1);
  }

  /** "In a branch not kept only these six directives are looked at (their conditions not), and pieces need not be right; comments and lines are." */
  private static void branchesNotKept() {
    right("#if 0\n#error\n#line\n#include \"none\"\n#define\n#undef\n#nothing\n#1\n#define defined\n#if ' \"\n#elif ` 1 /\n#else @\n#endif $\n#ifdef\n#ifdef 1\n#ifndef a b\n#endif\n#endif\n#endif\n' ` @ \"\n#endif");
    right("#if 1\n#else\n#error\n#if 1/0\n#elif (\n#endif\n ` '\n#endif");
    right("#if 1\n#elif 1\n#error\n#elif (\n#elif 1/0\n#else\n#error\n#endif");
    wrong("#if 0\n /* \n#endif", 2);
    right("#if 0\n /* \n#endif */\n#endif");
    wrong("#if 0\n \\\n#endif\n#endif", 4);
    right("#if 0\n x\\\n#endif\n#endif");
    right("#if 0\n # /*\n */ endif");
    right("#if 0\n??=endif");
    right("#if 0\n x #endif\n##endif\n# endifx\n#endi\\\nf");
    wrong("#if 0\n#if 1\n#endif\n\n\n", 1);
  }

  /** "elif or else behind an else: fault", kept or not. */
  private static void behindElse() {
    wrong("#if 1\n#else\n#else\n#endif", 3);
    wrong("#if 1\n#else\n#elif 1\n#endif", 3);
    wrong("#if 0\n#else\n#else\n#endif", 3);
    wrong("#if 0\n#if 0\n#else\n#else\n#endif\n#endif", 4);
    wrong("#if 0\n#if 0\n#else\n#elif\n#endif\n#endif", 4);
    wrong("#if 1\n#else\n#if 1\n#else\n#elif `\n#endif\n#endif", 5);
    right("#if 0\n#else\n#if 0\n#else\n#endif\n#endif");
    // The line is cut where the row of branches is in kept text, so a bad byte has its own line.
    wrong("#if 1\n#else\n#elif \\\n`\n#endif", 4);
    wrong("#if 1\n#else\n#else \\\n`\n#endif", 4);
    wrong("#elif \\\n`", 2);
    wrong("#else \\\n'", 2);
    wrong("#endif \\\n@", 2);
    wrong("#if 0\n#if 1\n#else\n#elif \\\n`\n#endif\n#endif", 4);
    wrong("#if 0\n#if 1\n#else\n#else \\\n`\n#endif\n#endif", 4);
    right("#if 1\n#elif \\\n`\n#endif");
    wrong("#if 0\n#elif \\\n`\n#endif", 3);
  }

  /** "define, undef, ifdef, ifndef without a NAME, else and endif with something behind ..: fault (only in text that is kept)." */
  private static void nothingBehind() {
    for (String bad : new String[] {"define", "undef", "ifdef", "ifndef", "ifdef 1", "ifndef +", "ifdef A B", "ifndef A 1", "ifdef \"A\"", "define 1", "undef +"}) {
      wrong("int x;\n#" + bad + "\n#endif", 2);
      right("#if 0\n#" + bad + "\n" + (bad.startsWith("if") ? "#endif\n" : "") + "#endif");
    }
    wrong("#if 1\n#else 1\n#endif", 2);
    wrong("#if 1\n#endif 1", 2);
    wrong("#if 1\n#else\n#endif x", 3);
    right("#if 0\n#if 1\n#else 1\n#endif 1\n#endif");
    right("#if 1\n#else\n#if 1\n#else `\n#endif '\n#endif");
    right("#ifdef __LINE__\n#else // nothing\n#error\n#endif /* nothing */");
  }

  /** "error: fault. pragma: nothing. line and all others: fault." */
  private static void otherDirectives() {
    for (String bad : new String[] {"error", "error x", "line", "line 1", "line 1 \"x\"", "warning", "Define X", "defined", "1", "+", "\"x\"", "(", " # x", "elseif", "if1", "endif_", "ident", "'x'", "assert"}) {
      wrong("int x;\n#" + bad + "\n", 2);
      right("#if 0\n#" + bad + "\n#endif");
    }
    right("#pragma\n#pragma once\n# pragma 1 + ( ## # \"x\" 'ab' 09\n#pragma error");
    wrong("#pragma `", 1);
    wrong("#error `", 1);
    wrong("#error \\\n`", 2);
  }

  /** "first defined NAME and defined ( NAME ) become 1 or 0, spaced as the word defined was; then macros are replaced; then every name becomes 0". */
  private static void definedFirst() {
    for (String holds : new String[] {"defined A", "defined(A)", "defined ( A )", "!defined B", "!defined(B)", "defined F", "defined F + 0", "defined if == 0", "defined __LINE__", "defined(__FILE__)",
        "!defined defined", "!defined __VA_ARGS__", "defined NULL && defined(EOF)", "!defined main", "F == 0", "B == 0", "if + while == 0", "A == 0", "E 1", "!(G(defined A) - 2)", "defined(A) == 1"}) {
      right("#define A A\n#define F(x) 5\n#define E\n#define G(x) x + 1\n#if " + holds + "\n#else\n#error\n#endif");
    }
    for (String bad : new String[] {"defined", "defined 1", "defined(", "defined()", "defined(1)", "defined(A", "defined(A B", "defined(A 1", "defined ( A (", "defined(A B)", "defined A B", "defined (A) B", "defined +A", "D", "D(A)", "defined \"A\"", "defined(A))", "defined((A))"}) {
      wrong("#define A A\n#define D defined A\n#if " + bad + "\n#endif", 3);
    }
    // defined that comes of a macro is a name like others.
    right("#define D defined\n#if D == 0\n#else\n#error\n#endif");
    wrong("#define D defined\n#if D A\n#endif", 2);
    right("#define A 1\n#define S(x) #x[0]\n#define C(x) 1 ## x\n#if C(defined A) == 11\n#else\n#error\n#endif");
    right("#define A\n#undef A\n#if defined A\n#error\n#endif\n#ifdef A\n#error\n#endif");
    right("#ifndef __LINE__\n#error\n#endif\n#ifndef __FILE__\n#error\n#endif\n#ifdef defined\n#error\n#endif\n#ifdef __VA_ARGS__\n#error\n#endif");
  }

  /** "an expression of integer constants and character constants"; what is left over or missing, and what has another form. */
  private static void whatAConditionHas() {
    for (String holds : new String[] {"0x7fffffffffffffff == 9223372036854775807", "9223372036854775807 + 1 == -9223372036854775807 - 1", "18446744073709551615u == -1", "0xffffffffffffffff == -1",
        "01777777777777777777777 == -1", "9223372036854775808u < 0", "-1 < 1u", "2147483647 + 1 == 2147483648", "4294967295u + 1 == 4294967296", "'\\377' == -1", "'\\200' == -128", "'\\177' == 127", "'a' == 97",
        "(-9223372036854775807 - 1) / -1 == -9223372036854775807 - 1", "(-9223372036854775807 - 1) % -1 == 0", "-7 / 2 == -3", "-7 % 2 == -1", "7 / -2 == -3", "7 % -2 == 1", "-1 >> 63 == -1", "1u - 2 < 0",
        "3 * -3 == -9", "+-+3 == -3", "~-1 == 0", "!2 == 0", "!0 == 1", "5 > 4 > 0", "(2 && 3) == 1", "(0 || 4) == 1", "6 & 3 ^ 1 | 8", "1 + 2 << 1 == 6", "1 ? 2 ? 3 : 0 : 0", "0 ? 1 : 2 ? 3 : 0", "(1 ? 0 : 1 || 1 ? 1 : 0) == 0",
        "2 == 2 != 0", "1 - 1 - 1 == -1", "100 / 10 / 5 == 2", "7 % 4 % 2 == 1", "1 || 0 && 0", "4 - -4 == 8", "b == 0", "- -1 == 1", "(6 & 3) == 2", "(6 | 3) == 7", "(6 ^ 3) == 5", "(6 & 3 ^ 1 | 8) == 11", "(1 < 2) == 1", "(2 < 2) == 0", "(3 < 2) == 0", "(1 > 2) == 0", "(2 > 2) == 0",
        "(3 > 2) == 1", "(1 <= 2) == 1", "(2 <= 2) == 1", "(3 <= 2) == 0", "(1 >= 2) == 0", "(2 >= 2) == 1", "(3 >= 2) == 1", "(1 == 2) == 0", "(2 != 2) == 0", "(1 != 2) == 1", "2 * 3 % 4 == 2", "8 / 2 * 4 == 16", "1 << 2 << 1 == 8", "64 >> 2 >> 1 == 8", "(1 | 2 == 2) == 1", "(4 & 4 == 4) == 0",
        "(1 ^ 1 & 0) == 1", "(3 & 1 << 1) == 2", "1 + 1 < 3 - 0", "-1 < 0 == 1", "!0 + 1 == 2", "~0 + 1 == 0", "- 2 * - 3 == 6", "(1 && 0) == 0", "(0 || 0) == 0", "(5 && 6) == 1", "(1 ? 2 : 3) == 2", "(0 ? 2 : 3) == 3", "(0 ? 1 : 0 ? 2 : 3) == 3", "(1 ? 0 ? 4 : 5 : 6) == 5"}) {
      right("#if " + holds + "\n#else\n#error\n#endif");
    }
    for (String bad : new String[] {"", "/* */", "+", "1 +", "(1", "1)", "()", "1 1", "1 (1)", "1 = 1", "1, 1", "a++", "++1", "--1 1", "1 ? 2", "1 ?", "1 ? : 2", "1 ? 2 :", "1 : 2", "1 ? 2 ; 3", "1 ? 2 , 3", "1 ? 2 ] 3", "(1 ? 2 ) 3", "1 ? 2 ? 3", "1 ? 2 ( 3", "&1", "*1", "sizeof 1", "(int) 1 1", "1.0", "1e0",
        ".5", "0x1p0", "1f", "\"1\"", "''", "'ab'", "'\\z'", "08", "0x", "1lul", "9223372036854775808", "18446744073709551616", "18446744073709551616u", "0x10000000000000000", "1 # 1", "1 ## 1", "1.5f", "1e0F", ".5l", "0x1p0f", "0x1p0L", "[1]", "a[1]", "a.b", "a->b", "{1}", "1;", "..."}) {
      wrong("int x;\n#if " + bad + "\n#endif", 2);
      wrong("int x;\n#if 0\n#elif " + bad + "\n#endif", 3);
      right("#if 1\n#elif " + bad + "\n#endif");
    }
  }

  /** "a shift by a count below 0 or above 63: fault"; "/ or % by 0 that is worked out: fault". */
  private static void conditionShifts() {
    right("#if 1 << 63 < 0 && 1 << 0 == 1 && -1 >> 63 == -1 && 5 >> 0 == 5 && 1 << 62 > 0\n#else\n#error\n#endif");
    for (String bad : new String[] {"1 << 64", "1 << -1", "1 >> 64", "1 >> -1", "0 << 64", "1 << 9223372036854775807", "1 << 4294967296", "1 / 0", "1 % 0", "0 / 0", "1 / (1 - 1)", "1 % b"}) {
      wrong("int x;\n#if " + bad + "\n#endif", 2);
      wrong("int x;\n#if 1 && (" + bad + ")\n#endif", 2);
      wrong("int x;\n#if 1 ? " + bad + " : 1\n#endif", 2);
    }
  }

  /** "&& || ?: work out only what they need". */
  private static void conditionLazy() {
    for (String part : new String[] {"1 / 0", "1 % 0", "1 << 64", "1 >> -1", "(1 / 0)", "-(1 / 0)", "1 + 1 / 0", "(0 ? 1 : 1 / 0)", "(1 && 1 / 0)", "(1 / 0 || 1)", "(1 / 0 ? 1 : 2)"}) {
      right("#if 0 && " + part + "\n#error\n#endif");
      right("#if 1 || " + part + "\n#else\n#error\n#endif");
      right("#if 1 ? 1 : " + part + "\n#else\n#error\n#endif");
      right("#if 0 ? " + part + " : 1\n#else\n#error\n#endif");
      right("#if 0 && (0 || " + part + ") || 1\n#else\n#error\n#endif");
      right("#if 1 ? 1 : 0 ? " + part + " : " + part + "\n#else\n#error\n#endif");
      wrong("#if 1 && (" + part + ")\n#endif", 1);
      wrong("#if 0 || (" + part + ")\n#endif", 1);
      wrong("#if 0 ? 1 : (" + part + ")\n#endif", 1);
      wrong("#if 1 ? (" + part + ") : 1\n#endif", 1);
      wrong("#if (" + part + ") && 0\n#endif", 1);
    }
    // What comes behind something that was not needed is worked out again.
    for (String behind : new String[] {"0 && 1 || 1 / 0", "(0 && 1) + 1 / 0", "(1 || 1) && 1 / 0", "(1 ? 1 : 1) + 1 / 0", "(0 ? 1 : 1) + 1 / 0", "1 || 1 ? 1 / 0 : 1", "(0 && 0 && 0) || 1 / 0", "(1 || 0 || 0) && 1 / 0", "(0 ? 0 && 1 : 1) && 1 / 0", "(1 ? 1 : 0 || 1) && 1 / 0", "0 && 1 ? 1 : 1 / 0",
        "(0 && (0 || 1)) || 1 << 64", "(1 || 1 / 0) && 1 % 0", "(0 && 1 / 0) || 1 / 0"}) {
      wrong("\n#if " + behind + "\n#endif", 2);
    }
    right("#if 1 || 1 / 0 || 1 / 0 && 1 / 0\n#else\n#error\n#endif\n#if 0 && 1 / 0 && 1 / 0 || 1\n#else\n#error\n#endif\n#if 0 && (1 || 0) && 1 / 0\n#error\n#endif");
    // What is not needed must be an expression all the same.
    for (String part : new String[] {"", "(", "1 1", "1.0", "\"a\"", "08", "'ab'"}) {
      wrong("#if 0 && " + part + "\n#endif", 1);
      wrong("#if 1 ? 1 : " + part + "\n#endif", 1);
    }
  }

  /** "( ), prefix operators and the parts of ?: deeper than 40: fault 5 at the directive's line". */
  private static void conditionDepth() {
    String[][] nests = {{"(", "1", ")"}, {"-", "1", ""}, {"!", "1", ""}, {"~", "1", ""}, {"+", "1", ""}, {"1 ? ", "1", " : 1"}, {"0 ? 1 : ", "1", ""}, {"- ", "1", ""}};
    for (String[] nest : nests) {
      String just = nest[0].repeat(40) + nest[1] + nest[2].repeat(40);
      String more = nest[0].repeat(41) + nest[1] + nest[2].repeat(41);
      if (!nest[0].equals("-") && !nest[0].equals("+")) {
        right("#if " + just + "\n#endif");
        Bench.faults("\n#if \\\n" + more + "\n#endif", 5, 2);
        Bench.faults("\n#if 0\n#elif \\\n" + more + "\n#endif", 5, 3);
        right("#if 1\n#elif " + more + "\n#endif");
        Bench.faults("\n#if 0 && " + more + "\n#endif", 5, 2);
      }
    }
    right("#if " + "(-".repeat(20) + "1" + ")".repeat(20) + "\n#endif");
    Bench.faults("#if " + "(-".repeat(20) + "(1)" + ")".repeat(20) + "\n#endif", 5, 1);
    Bench.faults("#if " + "(-".repeat(20) + " -1" + ")".repeat(20) + "\n#endif", 5, 1);
    right("#if " + "(".repeat(39) + "1) + (1) + (1" + ")".repeat(39) + "\n#endif");
    right("#if " + "1 + ".repeat(100) + "(1)" + " - 1".repeat(100) + "\n#endif");
    // What comes earlier is told.
    Bench.faults("#if " + "(".repeat(41) + ")\n#endif", 5, 1);
    wrong("#if " + ") " + "(".repeat(41) + "\n#endif", 1);
    // What begins nothing is not too deep, but is none of it at all.
    for (String none : new String[] {"", ")", "*", "/ 1", "==", "?", ":", "\"a\"", "&", "[", "{", ",", "++", "--"}) {
      wrong("\n#if " + "- ".repeat(41) + none + "\n#endif", 2);
      wrong("\n#if " + "1 ? ".repeat(41) + none + "\n#endif", 2);
    }
    for (String one : new String[] {"(", "-", "+", "~", "!", "a", "1", "'a'", "1.5", "(1)", "-1", "'ab'"}) {
      Bench.faults("\n#if " + "- ".repeat(41) + one + "\n#endif", 5, 2);
      Bench.faults("\n#if " + "1 ? ".repeat(41) + one + "\n#endif", 5, 2);
    }
  }

  /** "Every piece has a set of HIDDEN names"; what is put in is looked at again, but never for a name that is hidden in it. */
  private static void hiddenNames() {
    becomes("#define A A", "A A", "A A");
    becomes("#define A B\n#define B A", "A B", "A B");
    becomes("#define A B C\n#define B C A\n#define C A B", "A", "A B A A C A");
    becomes("#define f(x) f x", "f(1) f(f)(2) f(f(1))", "f 1 f f(2) f f 1");
    becomes("#define f(x) g\n#define g f", "f(1)(2)(3)", "f(2)(3)");
    becomes("#define A() B\n#define B() A", "A()()()() A()()()", "A B");
    becomes("#define A() B()\n#define B() A()", "A()() B()()", "A()() B()()");
    becomes("#define id(x) x\n#define A id(A)", "A id(A)", "A A");
    becomes("#define AA BB\n#define BB AA\n#define P(x, y) x ## y", "P(A, A) P(B, B)", "AA BB");
    becomes("#define f(x) x(f)\n#define g(x) x(2)", "f(g)", "f(2)");
    Bench.exits("#define f(x) x + 1\n#define g f(\nint main(void) { return f(2) * 10 + g 3) * 100 + f (f(4)); }", 2 + 10 + 3 + 100 + 4 + 1 + 1);
    becomes("#define x x y", "x", "x y");
    // "Every piece of the result gets .. those that both the name and the ) have"; "A piece made by ## hides what both pieces hide".
    Bench.faults("#define p(x, y) x ## y\n#define AB 1 + p(A,\nint main(void) { return AB\nB); }", 3, 4);
    Bench.faults("#define p(x, y) x ## y\n#define AB 1 + p(A, B)\nint main(void) { return AB; }", 4, 3);
    becomes("#define p(x, y) x ## y\n#define q(x) p(x, B)\n#define AB [q(A)]", "AB q(A)", "[AB] [q(A)]");
    becomes("#define f(x) g\n#define g f(1)", "f(0) g", "f(1) g");
    becomes("#define e\n#define lp (\n#define f(x) <x>\n#define g() f", "g()(1) g e f e (1) g()e(2)", "<1> g f (1) f(2)");
  }

  /** "ARGUMENTS are the pieces up to the ) that fits, cut at commas not inside further ( )"; "no ) : fault". */
  private static void arguments() {
    String two = "#define f(x, y) <x|y>\n#define c ,\n#define p )\n#define e";
    becomes(two, "f(1,2) f((1,2),3) f(1,(2,3)) f(((,)),(())) f([1,2])", "<1|2> <(1,2)|3> <1|(2,3)> <((,))|(())> <[1|2]>");
    becomes(two, "f(,) f(1,) f(,2) f( , )", "<|> <1|> <|2> <|>");
    becomes(two, "f(1 c 2, 3) f(e, e) f(c, c)", "<1 , 2|3> <|> <,|,>");
    Bench.exits("#define f(x) (x + 1\n#define p )\nint main(void) { return f(4) p + f(2) p; }", 8);
    becomes(two, "f\n(\n1\n,\n2\n)", "<1|2>");
    becomes(two, "f f + (1,2) f", "f f + (1,2) f");
    becomes("#define f(x) <x>", "f (1) f f(2) f(f) f(f)(3) f((f)(4))", "<1> f <2> <f> <f>(3) <(f)(4)>");
    for (String bad : new String[] {"f(", "f(1", "f(1,2", "f(1,(2)", "f(1,2]", "f((1,2)"}) {
      wrong(two + "\nint a;\n" + bad + "\n;\n", 6);
    }
    Bench.exits("#define f(x) x + 1\n#define g(x) f(x\n#define h f(1\nint main(void) { return g(1)) * 8 + h); }", 11);
    // In an argument alone a name at its end has no ( behind it.
    becomes("#define f(x) <x>\n#define g(x) x(1)\n#define h(x) x", "g(f) h(f)(2)", "<1> <2>");
    wrong("#define f(x) <x>\n#define h(x) x\nint a = h(f(1)\n;", 3);
    wrong("#define f(x) <x>\n#define h(x) x\n#define o f(\nint a = h(o) 1);", 4);
  }

  /** "as many as parameters, where one parameter takes none as one empty argument, and ... takes none too; else fault". */
  private static void numberOfArguments() {
    String macros = "#define a() <>\n#define b(x) <x>\n#define c(x,y) <x|y>\n#define d(...) <__VA_ARGS__>\n#define e(x,...) <x|__VA_ARGS__>\n#define f(x,y,...) <x|y|__VA_ARGS__>";
    becomes(macros, "a() a( ) b() b( ) b(1) b(()) c(,) c(1,) c(1,2)", "<> <> <> <> <1> <()> <|> <1|> <1|2>");
    becomes(macros, "d() d(1) d(1,2) d(,) d(1, 2 , 3) e() e(1) e(1,) e(1,2) e(1,2,3) e(,) e(,,)", "<> <1> <1,2> <,> <1, 2 , 3> <|> <1|> <1|> <1|2> <1|2,3> <|> <|,>");
    becomes(macros, "f(,) f(1,2) f(1,2,) f(1,2,3) f(1,2,3,4)", "<||> <1|2|> <1|2|> <1|2|3> <1|2|3,4>");
    for (String bad : new String[] {"a(1)", "a(,)", "a(())", "b(,)", "b(1,2)", "b(1,)", "c()", "c(1)", "c(1,2,3)", "c(,,)", "c((1,2))", "f()", "f(1)", "f((1,2))"}) {
      wrong(macros + "\nint x;\n\n" + bad + ";", 9);
      wrong(macros + "\nint x;\n#if \\\n" + bad + "\n#endif", 8);
    }
  }

  /** "a # and the parameter behind it become a STRING of the argument's pieces as they are written". */
  private static void strings() {
    String s = "#define s(x) #x\n#define v(...) #__VA_ARGS__\n#define w(x, ...) #x #__VA_ARGS__\n#define A 1\n#define E";
    becomes(s, "s() s(A) s(E) s( a ) s(a b) s(a  b) s(a/**/b) s(a+b) s(a + b)", "\"\" \"A\" \"E\" \"a\" \"a b\" \"a b\" \"a b\" \"a+b\" \"a + b\"");
    becomes(s, "v() v(,) v( , ) v(a,b) v(a , b) w() w(a) w(a,) w(a, b ,c)", "\"\" \",\" \",\" \"a,b\" \"a , b\" \"\" \"\" \"a\" \"\" \"a\" \"\" \"a\" \"b ,c\"");
    Bench.writes(s + "\nint main(void) { fputs(s(\"a\\n\\\"\" '\\'' '\"' '\\\\' s(x) \"'\"), stdout); }", "\"a\\n\\\"\" '\\'' '\"' '\\\\' s(x) \"'\"");
    Bench.writes(s + "\nint main(void) { fputs(s('\"' \"\\\\\" a), stdout); }", "'\"' \"\\\\\" a");
    becomes("#define s(x) # x\n#define t(x) #x#x", "s(a) t(b)", "\"a\" \"b\"\"b\"");
    Bench.exits("#define s(x) #x\nint main(void) { return sizeof s() + sizeof s( ) * 2 + sizeof s(\"\") * 4; }", 1 + 2 + 12);
    // A # in a macro without parameters, and a parameter behind it there, are pieces like others.
    becomes("#define O # x\n#define x 5", "O", "# 5");
  }

  /** "the pieces on both sides of a ## become one, of both spellings (nothing on a side: the other one; nothing on both: nothing); is that not exactly one piece: fault". */
  private static void pastes() {
    String p = "#define p(x,y) x##y\n#define A 1\n#define B 2\n#define AB 3\n#define A2 4\n#define E";
    becomes(p, "p(A,B) p(A,2) p(,A) p(A,) p(,) p(E,A) p(A,E)", "3 4 1 1 EA AE");
    becomes(p, "p(1,2) p(1,a) p(a,1) p(1,.) p(.,1)", "12 1a a1 1. .1");
    becomes(p, "p(+,+) p(-,>) p(<,<) p(<<,=) p(&,&) p(!,=) p(#,#) p(1e,+)", "++ -> << <<= && != ## 1e+");
    becomes(p, "p(a b,c d)", "a bc d");
    becomes(p, "p(,a b) p(a b,)", "a b a b");
    for (String bad : new String[] {"p(+,-)", "p(a,+)", "p(+,a)", "p(1,+)", "p(a,.)", "p(.,.)", "p(.,a)", "p(\"a\",\"b\")", "p(a,\"b\")", "p(L,'b')", "p('a',1)", "p(/,/)", "p(/,*)", "p(<,>)", "p((,))",
        "p(<<,<)", "p(...,.)", "p(a,#)", "p(##,#)", "p(-,+)", "p(*,*)", "p([,])"}) {
      wrong(p + "\nint x;\n\n" + bad + ";", 9);
    }
    becomes(p, "p(=,=)", "==");
    becomes("#define o a ## b\n#define ab 5\n#define q(x) x ## _ ## x ## _", "o q(1) q() q(a b)", "5 1_1_ __ a b_a b_");
    becomes("#define t(x) #x ## x\n#define u(x) x ## #x", "t", "t");
    becomes("#define t(x) #x ## x\n#define u(x) x ## #x", "t() u()", "\"\" \"\"");
    wrong("#define t(x) #x ## x\n\nt(a)", 3);
  }

  /** "Of several ## one behind the other in a body the second is the piece on the right of the first, an ordinary one then". */
  private static void rowsOfPastes() {
    String f = "#define f(x, y) x ## ## y\n#define g(x, y) x ## ## ## y\n#define h(x, y) x ## ## ## ## y\n#define o a ## ## ## b\n#define a 1\n#define b 2";
    becomes(f, "f(,) f(,c) f(, 1 2) f( , a)", "## ## c ## 1 2 ## 1");
    becomes(f, "g(,)", "##");
    wrong(f + "\n\nf(1,)", 8);
    wrong(f + "\n\ng(,1)", 8);
    wrong(f + "\n\no", 8);
    // The fourth of four is an ordinary one, and a parameter beside it is beside ##.
    wrong(f + "\n\nh(,)", 8);
  }

  private static void spacing() {
    // "The first piece put in is spaced as the name was."
    becomes("#define A b\n#define E\n#define F(x) x", "+A + A +F(A) + F( A ) +E A + E+A", "+b + b +b + b + b ++b");
    // "a string made by # is spaced as its #; the first piece put in for a parameter is spaced as the parameter in the body"
    becomes("#define F(x) +x + x+\n#define G(x) +#x + #x + # x", "F( 1 2 ) G( a )", "+1 2 + 1 2+ +\"a\" + \"a\" + \"a\"");
    // "A piece made by ## .. is spaced as the left one (as the right one if there is nothing on the left)"
    becomes("#define P(x,y) +x ## y + x##y+ x ## y", "P(a,b) P(,b) P(a,)", "+ab + ab+ ab + b +b+ b +a + a+ a");
  }

  /** "__LINE__ becomes the line of the piece as a number, __FILE__ a string of the name of the text (\"\" for the source)." */
  private static void placeNames() {
    Bench.exits("\nint main(void) { return __LINE__ * 16 +\n__LINE__; }", 35);
    Bench.exits("#define L __LINE__\n#define F(x) (x) * 16 + L\nint main(void) {\n return F(L\n +\n __LINE__\n) - F(0); }", (4 + 4) * 16 + 4 + 7);
    Bench.exits("int main(void) { return sizeof __FILE__; }", 1);
    Bench f = new Bench().header("a\"\\b", "#define F __FILE__\nchar *f = F;\nint l = __LINE__;").source("#include <a\"\\b>\nint main(void) { fputs(f, stdout); fputs(F, stdout); return l; }");
    f.runs("names", 99, 0, 0);
    Bench.due("a name as it is, and that of the source", f.wrote(2), "a\"\\b");
    Bench.due("line", f.x.exitCode(), 3);
    Bench.exits("#define S(x) #x\nint main(void) { return S(__LINE__)[0] == '_'; }", 1);
    Bench.exits("#define P(x, y) x ## y\nint main(void) { return P(__LI, NE__); }", 2);
    right("#if __LINE__ != 1\n#error\n#endif\n\n#if \\\n__LINE__ != 6\n#error\n#endif");
  }

  /** "Predefined macros without parameters: __STDC__ 1, NULL ((void*)0), EOF (-1), INT_MAX .." */
  private static void predefined() {
    becomes("", "__STDC__ NULL EOF INT_MAX INT_MIN UINT_MAX LLONG_MAX CHAR_BIT stdin stdout stderr",
        "1 ((void*)0) (-1) 2147483647 (-2147483647-1) 4294967295u 9223372036854775807ll 8 ((FILE*)1) ((FILE*)2) ((FILE*)3)");
    becomes("", "LLONG_MIN SHRT_MAX BUFSIZ __DATE__ SIZE_MAX va_start", "LLONG_MIN SHRT_MAX BUFSIZ __DATE__ SIZE_MAX va_start");
    Bench.exits("int main(void) { return INT_MIN < 0 && INT_MAX > 0 && UINT_MAX + 1 == 0 && LLONG_MAX + 1 < 0 && sizeof(UINT_MAX) == 4 && sizeof(LLONG_MAX) == 8; }", 1);
    Bench b = new Bench().source("#undef EOF\n#define EOF 7\n#define ONE\nint main(void) { return EOF; }").runs("another EOF", 9, 0, 0);
    Bench.due("exit code", b.x.exitCode(), 7);
    b.source("#ifdef ONE\n#error\n#endif\nint main(void) { return -EOF; }").runs("macros are of one compiling", 9, 0, 0);
    Bench.due("exit code", b.x.exitCode(), 1);
  }

  /** "Faults of replacing are told at the line of the name, those of a directive at its line." */
  private static void linesOfFaults() {
    String f = "#define f(x) x\n#define g(x) f(x, x)\n#define h f(\n";
    wrong(f + "int a =\nf\n(\n1\n,\n2);", 5);
    wrong(f + "int a =\ng\n(\n1\n);", 5);
    wrong(f + "int a =\nf(\n\nf(1, 2));", 5);
    wrong(f + "int a = f(\n1) + h\n;", 5);
    wrong(f + "int a;\n#if 1 + \\\n f(1, \\\n 2)\n#endif", 5);
    new Bench().header("h", "\n\nint a = f(1, 2);").source("#define f(x) x\n#include \"h\"\n").refused("in a header", 1, 3, 1);
    for (String bad : new String[] {"1 / 0", "f()", "", "1 +", "1 << 64", "defined", "1.5", "08"}) {
      new Bench().header("g", "").header("h", "\n\n#if " + bad + "\n#endif").source("#define f(x, y) x\n#include \"h\"\n").refused("a condition in a header: " + bad, 1, 3, 2);
      new Bench().header("h", "\n\n#if 0\n#elif " + bad + "\n#endif").source("#define f(x, y) x\n#include \"h\"\n").refused("behind a branch in a header: " + bad, 1, 4, 1);
    }
    new Bench().header("h", "\n#if " + "(".repeat(41) + "1" + ")".repeat(41) + "\n#endif").source("#include \"h\"\n").refused("too deep in a header", 5, 2, 1);
    new Bench().header("h", "").source("#include \"h\"\n#if 1 / 0\n#endif").refused("behind a header", 1, 2, 0);
    // A group is replaced when it ends; what is wrong in a later one comes later.
    wrong(f + "int a = f();\nint b = f(1, 2);\n#error", 5);
    wrong(f + "int a = f();\n#error\nint b = f(1, 2);", 5);
    // A bad piece comes before other faults of its group or line.
    wrong(f + "int b = f(1, 2);\n\n`", 6);
    wrong(f + "#define f(x) \\\n`", 5);
    wrong("#undef \\\n1 2 `", 2);
    wrong("#if 1 + \\\n(`", 2);
    wrong("#ifdef \\\n`\n", 2);
    wrong("#nothing \\\n`\n", 2);
    wrong("#include \\\n\"none\" `\n", 2);
  }

  /** "Where arguments of a call are to be replaced that lies in the arguments of 40 others: fault 5 at the outermost name." */
  private static void argumentsInArguments() {
    String f = "#define f(x) x\n#define g(x) 1\n#define s(x) sizeof #x\n#define z() 1\n#define o 1\nint main(void) { return\n";
    Bench.exits(f + in("f(", 40, "1") + "; }", 1);
    Bench.faults(f + in("f(", 39, "\n\nf(\nf(1))") + "; }", 5, 7);
    // No arguments are to be replaced of these, which lie in those of 40 others.
    Bench.exits(f + in("f(", 40, "o") + "; }", 1);
    Bench.exits(f + in("f(", 40, "z()") + "; }", 1);
    Bench.exits(f + in("f(", 40, "g(2)") + "; }", 1);
    Bench.exits(f + in("f(", 40, "s(2)") + "; }", 2);
    Bench.faults(f + in("f(", 40, "f(2)") + "; }", 5, 7);
    Bench.exits(f + in("g(", 60, "1") + "; }", 1);
    Bench.exits(f + in("f(", 20, in("g(", 60, "1")) + "; }", 1);
    Bench.exits(f + in("f(", 40, "1") + " + " + in("f(", 40, "1") + "; }", 2);
    Bench.exits("#define f(x) x\n\n#if " + in("f(", 40, "1") + "\nint main(void) { return 5; }\n#endif", 5);
    Bench.faults("#define f(x) x\n\n#if 1 + \\\n" + in("f(", 41, "1") + "\n#endif", 5, 3);
  }

  private static String in(String open, int times, String inner) {
    return open.repeat(times) + inner + ")".repeat(times);
  }
}
