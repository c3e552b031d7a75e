/** Texts, directives, macros and conditions. */
public final class PreprocessTest {
  public static void main(String[] args) {
    bytes();
    comments();
    pieces();
    defining();
    including();
    branches();
    conditions();
    replacing();
    stringsAndPastes();
    places();
    depth();
    Bench.finish();
  }

  /** What a row of pieces becomes, as a string made by #. */
  private static void becomes(String directives, String row, String want) {
    Bench.writes(directives + "\n#define STR(...) #__VA_ARGS__\n#define XSTR(...) STR(__VA_ARGS__)\n"
        + "int main(void) { fputs(XSTR(" + row + "), stdout); }\n", want);
  }

  private static void right(String source) {
    Bench.exits(source + "\nint main(void) { return 0; }\n", 0);
  }

  private static void wrong(String source, int line) {
    Bench.faults(source, 1, line);
  }

  private static void bytes() {
    right("\t \r\n");
    wrong("int x;\nint y\001;\n#error\n", 2);
    wrong("int x;\n\n/* \200 */", 3);
    wrong("#if 0\n\177\n#endif\n", 2);
    wrong("#error\n\f", 2);
    new Bench().header("h", "a\nb\013").source("#include \"h\"\n").refused("bad byte in a header", 1, 2, 1);
    new Bench().header("bad\200name", "\001").source("int main(void) { return 0; }").runs("header not come to", 9, 0, 0);
    Bench.exits("??=define X ??(??)\nint a??(2??) = ??< 1, 2 ??>; int main(void) { return a[1] ??' 3 ??! 8; ??>\n", 9);
    // Of ???/ the second ? begins the trigraph; what comes out is the string ?\?/?=?~|\\n.
    Bench.writes("int main(void) { fputs(\"???/?/?=???-|\\??/n\", stdout); ??>", "??/?=?~|\\n");
    Bench.exits("i\\\nnt ma\\\r\nin(vo\\\n\\\nid) { return 1\\\n2; ?\r?>\n", 12);
    Bench.exits("int main(void) { return 3; } // comment \\\n} } }\n", 3);
    Bench.exits("int main(void) { return 3; } // comment ??/\n} } }\n", 3);
    Bench.faults("int main(void) { return 1 +\\\n\\\n@; }", 1, 3);
  }

  private static void comments() {
    Bench.exits("int/* a\n\n*/main/**/(void)/*/ x */{ return 4 // * / \n / 2; }", 2);
    wrong("int x;\n/* no end\n\n", 2);
    wrong("int x; /*/\n", 1);
    Bench.writes("int main(void) { puts(\"/* no */ // no\"); return '/' == 0; }", "/* no */ // no\n");
    right("#define A '\"' /* x */\n#define B \"'\" // y\n#define C '\\'' /* z */");
    right("#if 0\n don't /* a comment that\n ends */ \"\n#endif");
    wrong("#if 0\n don't\n /* a comment that\n does not end \n#endif", 3);
    Bench.faults("#if 0\n don't /* no comment\n#endif", 4, 1);
    becomes("", "a/**/b", "a b");
    becomes("#define e/* */f(x) x\n", "e", "f(x) x");
    Bench.exits("#define X 1 /* over\n lines */ + 2\nint main(void) { return X; }", 3);
  }

  private static void pieces() {
    becomes("", "0x1e+1 1.2.3e-5_p+q .5 .x ..5", "0x1e+1 1.2.3e-5_p+q .5 .x ..5");
    becomes("#define x y", "1x 0x x.x", "1x 0x y.y");
    becomes("", "a+++b ->-- <<=>>= ...##%", "a+++b ->-- <<=>>= ...##%");
    wrong("int main(void) {\n return '\n'; }", 2);
    wrong("int main(void) {\n return 1; \"abc }", 2);
    wrong("int main(void) {\n return 1; $ }", 2);
    wrong("int x = '", 1);
    wrong("char *x = \"abc\\", 1);
    wrong("int x; `\n#error\n", 1);
    wrong("#define X `\n", 1);
    wrong("\n#define X \\\n `\n", 3);
    right("#if 0\n ` ' \"\n#endif");
    becomes("", "a  \t b\n c", "a b c");
    becomes("#define F(x) <x>", "F( a ) F(a)F (b)", "<a> <a><b>");
  }

  private static void defining() {
    right("#define A\n#define A\n#define B 1 + 2\n#define B 1+2\n#define C(a,b) a b\n#define C( a , b ) a   b");
    wrong("#define A 1\n#define A 2\n", 2);
    wrong("#define A 1\n#define A 1 1\n", 2);
    wrong("#define A (x)\n#define A(x)\n", 2);
    wrong("#define A(x) x\n#define A(y) y\n", 2);
    wrong("#define A(x)\n#define A(x,y)\n", 2);
    wrong("#define A(x, y)\n#define A(x, ...)\n", 2);
    right("#define A 1\n#undef A\n#define A 2\n#undef B\n");
    becomes("#define A x+y\n#define A x + y\n", "A", "x+y");
    wrong("\n#define", 2);
    wrong("\n#define 1", 2);
    wrong("\n#define +", 2);
    wrong("#define defined 1", 1);
    wrong("#define __LINE__ 1", 1);
    wrong("#define __FILE__", 1);
    wrong("#define __VA_ARGS__ 1", 1);
    wrong("#undef __LINE__", 1);
    wrong("#undef defined", 1);
    wrong("#undef", 1);
    wrong("#undef A B", 1);
    wrong("#undef 1", 1);
    wrong("#define F(a,a)", 1);
    wrong("#define F(__VA_ARGS__)", 1);
    wrong("#define F(a", 1);
    wrong("#define F(a,)", 1);
    wrong("#define F(a b)", 1);
    wrong("#define F(...,a)", 1);
    wrong("#define F(a...)", 1);
    wrong("#define F(1)", 1);
    wrong("#define F(", 1);
    right("#define F()\n#define G(...)\n#define H(a, ...)\n#define if(while) while\n#define I(defined, __LINE__) defined");
    wrong("#define A ## b", 1);
    wrong("#define A a ##", 1);
    wrong("#define A ##", 1);
    wrong("#define F(x) ## x", 1);
    wrong("#define F(x) # y", 1);
    wrong("#define F(x) #", 1);
    wrong("#define F() #", 1);
    wrong("#define F(x) # __VA_ARGS__", 1);
    right("#define F(...) # __VA_ARGS__\n#define A # y #\n#define G(x) #x ## #x");
    becomes("#define F(x) __VA_ARGS__ x", "F(1)", "__VA_ARGS__ 1");
    right("#\n # \n#pragma what 'a' ever\n#pragma");
    wrong("#pragma '", 1);
    wrong("int x;\n#error oh", 2);
    wrong("int x;\n # error", 2);
    wrong("#line 5", 1);
    wrong("#nothing", 1);
    wrong("# 5 \"file\"", 1);
    wrong("#\"a\"", 1);
    wrong("#if 1\n#warning\n#endif", 2);
    right("#if 0\n#nothing\n#line 5\n# 5\n#include <none>\n#define 1\n#error\n#endif");
    Bench.faults("##define X\nint x;", 2, 1);
    becomes("#undef NULL\n#define NULL 0\n#undef EOF\n", "NULL EOF", "0 EOF");
    right("#define NULL ((void*)0)\n#define EOF (- 1)\n");
    wrong("#define NULL 0\n", 1);
    becomes("", "__STDC__ EOF INT_MAX INT_MIN UINT_MAX LLONG_MAX CHAR_BIT stdin",
        "1 (-1) 2147483647 (-2147483647-1) 4294967295u 9223372036854775807ll 8 ((FILE*)1)");
    becomes("", "NULL stdout stderr", "((void*)0) ((FILE*)2) ((FILE*)3)");
  }

  private static void including() {
    right("#include <stdio.h>\n#include \"stdlib.h\"\n#include <string.h> \n#include<ctype.h>\n#include<stdarg.h>\t\n"
        + "#include <stddef.h>\n#include <limits.h>\n");
    wrong("#include <stdio.h> x", 1);
    wrong("#include \"stdio.h\" x", 1);
    wrong("#include <math.h>", 1);
    wrong("\n#include \"none\"", 2);
    wrong("#include <stdio.h", 1);
    wrong("#include < stdio.h>", 1);
    wrong("#include", 1);
    wrong("#include stdio.h", 1);
    wrong("#define H <stdio.h>\n#include H", 2);
    new Bench().header("stdio.h", "#define X 7\n").source("#include <stdio.h>\nint main(void) { return X; }")
        .runs("own stdio.h", 9, 0, 0);
    new Bench().header("a 'b", "int x;").source("#include <a 'b>\nint main(void) { return x; }").runs("odd name", 9, 0, 0);
    new Bench().header("a\\\"b", "int x;").source("#include \"a\\\"b\"\nint main(void) { return x; }")
        .runs("name with an escape", 9, 0, 0);
    new Bench().header("a", "#define A 1\n#include \"b\"\nint a = B;").header("b", "#define B A + 1\n")
        .source("#include \"a\"\n#undef A\n#define A 5\nint main(void) { return a * 10 + B; }").runs("in one another", 9, 0, 0);
    new Bench().header("a", "#if 1\n").source("#include \"a\"\n#endif\n").refused("if over texts", 1, 1, 1);
    new Bench().header("a", "#endif\n").source("#if 1\n#include \"a\"\n#endif\n").refused("endif over texts", 1, 1, 1);
    new Bench().header("a", "#else\n").source("#if 1\n#include \"a\"\n#endif\n").refused("else over texts", 1, 1, 1);
    StringBuilder deep = new StringBuilder();
    for (int i = 0; i < 14; i++) {
      deep.append(i == 0 ? "#if !defined N" : "#elif !defined N").append(i).append("\n#define N").append(i)
          .append("\n").append(i < 13 ? "#include \"s\"\n" : "int deep;\n");
    }
    deep.append("#endif\n");
    new Bench().header("s", deep.toString()).source("#include \"s\"\nint main(void) { return deep; }").runs("15 texts", 9, 0, 0);
    new Bench().header("s", "#include \"s\"\n").source("\n#include \"s\"\n").refused("16 texts", 1, 1, 1);
    Bench b = new Bench().header("s", "#include \"s\"\n").source("\n#include \"s\"\n");
    b.x.compile();
    Bench.due("pieces of 14 texts", b.x.pieces(), 1 + 14 * (16 + 2 + 1));
    becomes("", "__FILE__", "\"\"");
    new Bench().header("q\"\\", "char *f = __FILE__; int l = __LINE__;").source("#include <q\"\\>\n"
        + "int main(void) { puts(f); return l; }").runs("file", 99, 0, 0);
    Bench f = new Bench().header("q\"\\", "\nchar *f = __FILE__; int l = __LINE__;").source("#include <q\"\\>\n"
        + "int main(void) { fputs(f, stdout); return l; }").runs("file", 99, 0, 0);
    Bench.due("the name", f.wrote(2), "q\"\\");
    Bench.due("the line", f.x.exitCode(), 2);
  }

  private static void branches() {
    becomes("#if 1\n#define A 1\n#elif 1\n#define A 2\n#else\n#define A 3\n#endif", "A", "1");
    becomes("#if 0\n#define A 1\n#elif 2\n#define A 2\n#elif 1\n#define A 4\n#else\n#define A 3\n#endif", "A", "2");
    becomes("#if 0\n#define A 1\n#elif 0\n#define A 2\n#else\n#define A 3\n#endif", "A", "3");
    becomes("#ifdef X\n#define A 1\n#else\n#define A 2\n#endif\n#ifndef X\n#define B 1\n#endif", "A B", "2 1");
    becomes("#if 0\n#if 1\n#define A 1\n#else\n#define A 2\n#endif\n#else\n#define A 3\n#endif", "A", "3");
    becomes("#ifdef __LINE__\n#define A 1\n#endif\n#ifdef __FILE__\n#define B 1\n#endif\n#ifdef defined\n#define C\n#endif\n"
        + "#ifdef __VA_ARGS__\n#define D\n#endif\n#ifdef NULL\n#define E 2\n#endif", "A B C D E", "1 1 C D 2");
    wrong("#else\n", 1);
    wrong("#endif\n", 1);
    wrong("#elif 1\n", 1);
    wrong("\n#if 1\n#if 0\n#endif\n", 2);
    wrong("\n#if 1\n#if 0\n", 3);
    wrong("#if 1\n#else\n#else\n#endif\n", 3);
    wrong("#if 0\n#if 1\n#else\n#elif 1\n#endif\n#endif\n", 4);
    wrong("#if 1\n#else x\n#endif", 2);
    wrong("#if 1\n#else\n#endif x", 3);
    wrong("#if 0\n#else x\n#endif", 2);
    wrong("#if 0\n#endif x", 2);
    right("#if 0\n#if 1\n#else x\n#endif x\n#ifdef\n#ifndef 1\n#endif '\n#endif\n#endif\n");
    wrong("#ifdef\n#endif", 1);
    wrong("#ifdef 1\n#endif", 1);
    wrong("#ifdef A B\n#endif", 1);
    wrong("#ifndef\n#endif", 1);
    wrong("#if 0\n#elif\n#endif", 2);
    right("#if 1\n#elif\n#elif ' 1/0 (\n#endif");
    wrong("#if 1\n#else\n#elif '\n#endif", 3);
    wrong("#if\n#endif", 1);
    right(" # if 1 /* c */ \n # endif // c\n#ifdef A // c\n#else /* c */\n#endif");
    right("#if 0\n  text # if 1\n#endif");
    right("#if 0\n## if 1\n#endif");
  }

  private static void conditions() {
    String[] hold = {
      "1", "'a' == 97", "'\\377' < 0", "-1 < 0", "-1 > 0u == 0", "0x10 == 16", "010 == 8", "1 ? 2 : 0", "!0", "~0 == -1",
      "+1", "1 || 1 / 0", "!(0 && 1 / 0)", "1 ? 1 : 1 / 0", "0 ? 1 / 0 : 1", "2 + 3 * 4 == 14", "(2 + 3) * 4 == 20",
      "7 % 4 == 3", "-7 / 2 == -3", "-7 % 2 == -1", "1 << 62 >> 62 == 1", "-8 >> 1 == -4", "5 & 6 | 8 ^ 1",
      "1 < 2 == 1", "3 >= 3 && 3 <= 3 && 3 != 4", "9223372036854775807 + 1 < 0", "18446744073709551615u == -1",
      "(-9223372036854775807 - 1) / -1 == -9223372036854775807 - 1", "(-9223372036854775807 - 1) % -1 == 0",
      "unknown == 0", "while == 0", "defined X == 0", "defined(NULL)", "defined NULL && defined ( NULL )",
      "1 ? 0 ? 0 : 1 : 0", "0 ? 1 : 0 ? 1 : 2", "1 << 63 < 0", "- - 1", "!!5 == 1", "(3 > 2) == 1", "2 > 1 > 0",
      "'\\0' == 0 && '\\x41' == 65 && '\\'' == 39", "EOF == -1", "0 || 0 || 3", "1 && 2 && 3", "__LINE__ == 1",
      "defined __LINE__ && defined __FILE__ && !defined defined && !defined __VA_ARGS__", "8 - 4 - 2 == 2", "1LL && 1uL",
      "1 ? 1 : 2 || 3", "1 ? (2) : 0", "0x7fffffffffffffff > 0", "0xffffffffffffffff < 0"
    };
    for (String condition : hold) {
      right("#if " + condition + "\n#else\n#error\n#endif");
      right("#if !(" + condition + ")\n#error\n#endif");
    }
    String[] wrong = {
      "", "(", ")", "1 2", "1 +", "* 1", "1.0", "\"a\"", "'ab'", "''", "09", "1x", "1 / 0", "1 % 0", "1 << 64", "1 >> -1",
      "1 << -1", "1 ? 2", "1 ? : 2", "1 : 2", "1, 2", "a = 1", "a++", "(1", "1)", "defined", "defined 1", "defined(X",
      "defined(1)", "defined X Y", "#", "1 # 2", "0x", "'\\q'", "18446744073709551616", "9223372036854775808", "1 ? 1 : 1 +",
      "0 && (1 +", "0 && 1.0", "0 ? \"a\" : 1", ".5", "[1]", "1 ...", "1 -> 2"
    };
    for (String condition : wrong) {
      wrong("\n#if " + condition + "\n#endif", 2);
      right("#if 0\n#if " + condition.replace("'", "") + "\n#endif\n#endif");
    }
    right("#define F(x) x + 1\n#if F(2) == 3 && F (2) * 2 == 4\n#else\n#error\n#endif");
    right("#define D defined\n#define F(x) x\n#if F(defined NULL) == 1\n#else\n#error\n#endif");
    wrong("#define D defined NULL\n#if D\n#endif", 2);
    wrong("#define F(x) x\n#if F(1\n#endif", 2);
    wrong("#define F(x) x\n#if \\\n F(1 \\\n 2)\n#endif", 2);
    right("#define F(x) x\n#if F + 1\n#else\n#error\n#endif");
    right("#if \\\n\\\n __LINE__ != 3\n#error\n#endif");
    StringBuilder deep = new StringBuilder("#if ");
    deep.append("(".repeat(40)).append("1").append(")".repeat(40)).append("\n#endif");
    right(deep.toString());
    Bench.faults("\n" + deep.toString().replace("(1)", "((1))"), 5, 2);
    right("#if " + "-".repeat(0) + "- ".repeat(40) + "1\n#endif");
    Bench.faults("#if " + "- ".repeat(41) + "1\n#endif", 5, 1);
    right("#if " + "1 ? 1 : ".repeat(40) + "1\n#endif");
    Bench.faults("#if " + "1 ? 1 : ".repeat(41) + "1\n#endif", 5, 1);
    right("#if " + "1 + ".repeat(300) + "1 == 301\n#else\n#error\n#endif");
    Bench.faults("#if " + "!".repeat(41) + "\n#endif", 1, 1);
  }

  private static void replacing() {
    becomes("#define A B c\n#define B A d", "A", "A d c");
    becomes("#define f(x) x f", "f(1)(2) f (3) f", "1 f(2) 3 f f");
    becomes("#define f(a) a*g\n#define g(a) f(a)", "f(2)(9)", "2*9*g");
    becomes("#define x 3\n#define f(a) f(x * (a))\n#undef x\n#define x 2\n#define g f\n#define z z[0]\n#define h g(~\n"
        + "#define m(a) a(w)\n#define w 0,1\n#define t(a) a\n#define p() int\n#define q(x) x\n#define r(x,y) x ## y",
        "f(y+1) + f(f(z)) % t(t(g)(0) + t)(1);", "f(2 * (y+1)) + f(2 * (f(2 * (z[0])))) % f(2 * (0)) + t(1);");
    becomes("#define x 3\n#define f(a) f(x * (a))\n#undef x\n#define x 2\n#define g f\n#define h g(~\n"
        + "#define m(a) a(w)\n#define w 0,1\n#define t(a) a\n#define C h 5",
        "g(x+(3,4)-w) | & m\n(f)^m(m)", "f(2 * (2+(3,4)-0,1)) | & f(2 * (0,1))^m(0,1)");
    becomes("#define f(x, y) x-y", "f((1,2),3) f(,) f( , 4)", "(1,2)-3 - -4");
    becomes("#define f(x) <x>\n#define e", "f() f(e) f( )", "<> <> <>");
    becomes("#define f() ok", "f() f( )", "ok ok");
    becomes("#define f(...) <__VA_ARGS__>\n#define g(a, ...) a:__VA_ARGS__", "f() f(1, 2) f((,),) g(1) g(1, 2 ,3) g()",
        "<> <1, 2> <(,),> 1: 1:2 ,3 :");
    String call = "int main(void) {\n";
    wrong("#define f(x) x\n" + call + "f(1, 2) }", 3);
    wrong("#define f(x, y) x\n" + call + "f(1) }", 3);
    wrong("#define f() x\n" + call + "f(1) }", 3);
    wrong("#define f(x, y, ...) x\n" + call + "f(1) }", 3);
    wrong("#define f(x) x\n" + call + "f(1 }", 3);
    wrong("#define f(x) x\n" + call + "\nf\n\n( (1) ", 4);
    wrong("#define f(x) x\n" + call + "f(1\n#undef A\n) }", 3);
    becomes("#define f(x) x", "f", "f");
    right("#define f(x) x\nint f\n#undef f\n;");
    becomes("#define a a b\n#define f(x) x x", "f(a)", "a b a b");
    becomes("#define NIL(xxx) xxx\n#define G_0(arg) NIL(G_1)(arg)\n#define G_1(arg) NIL(arg)", "G_0(42)", "42");
    Bench.exits("#define f(x) g(x\n#define g(x) x + 2\nint main(void) { return f(1) * 3); }", 5);
    becomes("#define LP (\n#define f(x) <x>", "f LP 1)", "f ( 1)");
    becomes("#define f(x, y) x y\n#define c ,", "f(1 c 2, 3)", "1 , 2 3");
    wrong("#define f(x, y) x y\n#define c ,\nint a = f(1 c 2);", 3);
    wrong("#define f(x) g x\n#define g(a) a\n#define h f(\nint a = h 1) ;\nint b = h;", 5);
    becomes("#define EMPTY\n#define f(x) [x]", "f EMPTY (1)", "f (1)");
    becomes("#define if 1\n#define while x", "if while", "1 x");
  }

  private static void stringsAndPastes() {
    String s = "#define S(x) #x\n#define V(...) #__VA_ARGS__";
    becomes(s, "S( a  +\n b )", "\"a + b\"");
    becomes(s, "S(\"a\\n\" '\\'' '\"')", "\"\\\"a\\\\n\\\" '\\\\'' '\\\"'\"");
    becomes(s, "S() S( ) V() V(a ,b, c)", "\"\" \"\" \"\" \"a ,b, c\"");
    becomes(s + "\n#define X 1", "S(X) S(S(X))", "\"X\" \"S(X)\"");
    becomes("#define P(a, b) a ## b", "P(x, y) P(1, 2) P(, y) P(x, ) P(,) P(-, >) P(a b, c d) P(1, .) P(., 5)",
        "xy 12 y x -> a bc d 1. .5");
    becomes("#define A 1\n#define B 2\n#define P(a, b) a ## b\n#define AB 3\n#define X(a, b) P(a, b)", "P(A, B) X(A, B)", "3 12");
    becomes("#define P(a, b, c) a ## b ## c", "P(x, y, z) P(x, , z) P(, y, ) P(, , z) P(1, e, 5)", "xyz xz y z 1e5");
    becomes("#define O x ## y # z", "O", "xy # z");
    becomes("#define H # ## #\n#define M(a) S2(H a)\n#define S2(a) S3(a)\n#define S3(a) #a", "M(b)", "\"## b\"");
    becomes("#define L(x) x ## 1 x", "L(a) L() L(a b)", "a1 a 1 a b1 a b");
    becomes("#define S(x) #x\n#define G(x) S(x) ## 1", "G", "G");
    String main = "\nint main(void) {\n return ";
    wrong("#define P(a, b) a ## b" + main + "P(x, +); }", 3);
    wrong("#define P(a, b) a ## b" + main + "P(\"a\", \"b\"); }", 3);
    wrong("#define P(a, b) a ## b" + main + "P(/, /); }", 3);
    wrong("#define P(a, b) a ## b" + main + "P(., .); }", 3);
    wrong("#define P a ## +" + main + "P; }", 3);
    wrong("#define P a ## ## b" + main + "P; }", 3);
    becomes("#define P(x, y) x ## ## ## y", "P(,)", "##");
    Bench.faults("#define P(x) x ## 1\nint P(a) # ;", 2, 2);
    becomes("#define hash_hash # ## #\n#define mkstr(a) # a\n#define in_between(a) mkstr(a)\n"
        + "#define join(c, d) in_between(c hash_hash d)", "join(x, y)", "\"x ## y\"");
    becomes("#define P(a,b) a##b\n#define foo() 7", "P(fo,o)() P(fo,o) ()", "7 7");
    becomes("#define P(a,b) a##b\n#define xx P(x, x)", "xx", "xx");
  }

  private static void places() {
    Bench.exits("\n\nint main(void) { return __LINE__; }", 3);
    Bench.exits("#define L __LINE__\nint main(void) {\n return L\n; }", 3);
    Bench.exits("#define F(x) x + __LINE__\nint main(void) {\n return F(\n\n __LINE__); }", 6);
    Bench.exits("#define F(x) x\n#define G F\nint main(void) {\n return G\n\n(\n__LINE__); }", 4);
    Bench.faults("#define F(x) x ) (\nint main(void) {\n return 1 \n F(\n 2); }", 3, 4);
    Bench.faults("#define A B\n#define B C\n#define C 09\nint x = 1 +\n A;", 2, 5);
    Bench.faults("#define F(x) x\nint main(void) {\n F(\n 09\n) }", 2, 3);
    wrong("#define F(x) x\n#define G(y) y\nint main(void) {\n F(\n\n G(1, 2)\n) }", 4);
  }

  private static void depth() {
    String f = "#define f(x) x\nint main(void) { return\n";
    Bench.exits(f + "f(".repeat(40) + "7" + ")".repeat(40) + "; }", 7);
    Bench.faults(f + "\nf(".repeat(41) + "7" + ")".repeat(41) + "; }", 5, 4);
    String g = "#define f(x) x\n#define g(x) 7\nint main(void) { return ";
    Bench.exits(g + "f(".repeat(40) + "g(f(g(1)))" + ")".repeat(40) + "; }", 7);
    Bench.faults(g + "f(".repeat(40) + "f(1)" + ")".repeat(40) + "; }", 5, 3);
  }
}
