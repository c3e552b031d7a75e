/** How many pieces are made, and what has no room. */
public final class RoomTest {
  public static void main(String[] args) {
    counting();
    fullOfPieces();
    wholeLife();
    expressions();
    orderOfRoom();
    manyCalls();
    Bench.finish();
  }

  private static final String MAIN = "int main(void) { }";
  private static final int OF_MAIN = 7;

  /** The pieces of a text, besides those of main behind it. */
  private static void pieces(String text, int want) {
    Bench b = new Bench();
    b.source(text + "\n" + MAIN);
    Bench.due(text + " compile at line " + b.x.faultLine(), b.x.compile(), 0);
    Bench.due(text + " pieces", b.x.pieces(), want + OF_MAIN);
  }

  private static void counting() {
    pieces("", 0);
    pieces("int a; /* no piece */ // none", 3);
    pieces("char *s = \"a string of many bytes\";", 6);
    pieces("#\n#define X 1 2\n#undef X\n#pragma a b c\n", 4 + 2 + 4);
    pieces("#define F(x, y) x ## y #x\n", 1 + 6 + 5);
    pieces("#if 1 + 2\n#elif 1 2 3\n#else\n#endif\n", 3);
    pieces("#if 0\nnothing is cut\n#elif 1 + 2 + 3\n#elif 4 5\n#endif", 1 + 5);
    pieces("#ifdef X\n#define Y\n#endif\n#ifndef X\n#else\n#if 1 2 3\n#endif\n#endif", 2);
    pieces("#if defined X || defined ( NULL )\n#endif", 7);
    pieces("#include <stdio.h>\n#include \"stdlib.h\"", 1);
    pieces("#define A int a ;\nA", 5 + 1 + 3);
    pieces("#define A B B\n#define B int x ;\nA", 4 + 5 + 1 + 2 + 3 + 3);
    pieces("#define E\nE E int E a E ; E", 2 + 8);
    pieces("int *p = NULL;", 6 + 7);
    pieces("int a = __LINE__ + __STDC__;", 7 + 2);
    pieces("int a = INT_MIN; char *s = __FILE__;", 5 + 6 + 6 + 1);
    pieces("#define S \"123456789\"\nchar *s = S;", 3 + 6 + 2);
    pieces("#define S \"12345678901234\" x\nint S2;", 4 + 3);
    pieces("#define F(x) x x\nint a F() = F(1 +) 1;", 7 + 13 + 4);
    pieces("#define S(x) #x\nchar *s = S(abc);", 7 + 9 + 1 + 1);
    pieces("#define S(x) #x\nchar *s = S(abc def);", 7 + 10 + 2 + 2);
    pieces("#define S(x) #x #x\nchar *s = S(a);", 9 + 9 + 2 + 2);
    pieces("#define C(a, b) a ## b\nint C(x, y);", 10 + 8 + 1 + 1);
    pieces("#define C(a, b) a ## b\nint C(abcd, efghi);", 10 + 8 + 2 + 1);
    pieces("#define C(a, b) a ## b\nint C(x, );", 10 + 7 + 1);
    pieces("#define C x ## y ## z\nint C;", 7 + 3 + 1 + 1 + 1);
    pieces("#define F(x) x\n#define G(x) F(x) F(x)\nint a; G(int b;)", 6 + 13 + 9 + 12 + 6);
    Bench b = new Bench().header("h", "int a;\nint b;\n").source("#include \"h\"\nint c;\n" + MAIN);
    b.x.compile();
    Bench.due("an included text", b.x.pieces(), 1 + 16 + 2 + 6 + 3 + OF_MAIN);
    b = new Bench().header("h", "").source("#include <h>\n" + MAIN);
    b.x.compile();
    Bench.due("an empty text", b.x.pieces(), 16 + OF_MAIN);
    b = new Bench().header("a long header name", "char *s = __FILE__;").source("#include <a long header name>\n" + MAIN);
    b.x.compile();
    Bench.due("a file's name", b.x.pieces(), 16 + 3 + 6 + 3 + OF_MAIN);
    b = new Bench().source("int a;\n#error here\n");
    b.x.compile();
    Bench.due("up to a fault", b.x.pieces(), 5);
    b = new Bench().source("int a; ` int b;");
    b.x.compile();
    Bench.due("up to a bad byte", b.x.pieces(), 3);
    b = new Bench().source("int a;\n#define `\n");
    b.x.compile();
    Bench.due("with a directive", b.x.pieces(), 4);
  }

  /** A text of so many pieces in all, with a line for the last of them. */
  private static String exactly(int pieces, String last) {
    StringBuilder s = new StringBuilder("#define Z");
    s.append(" ;".repeat(100)).append("\nint main(void) { ");
    // 102 of the definition, 6 of main, 101 each.
    int left = pieces - 102 - OF_MAIN;
    s.append("Z ".repeat(left / 101)).append("; ".repeat(left % 101)).append("\n").append(last);
    return s.toString();
  }

  private static void fullOfPieces() {
    Bench b = new Bench().source(exactly(16000, "}"));
    Bench.due("16000 pieces", b.x.compile(), 0);
    Bench.due("so many", b.x.pieces(), 16000);
    Bench.due("nothing more", b.source("\n\nx").x.compile(), 5);
    Bench.due("line", b.x.faultLine(), 3);
    Bench.due("still so many", b.x.pieces(), 16000);
    Bench.due("an empty text", b.source("\n\n").x.compile(), 4);
    Bench.due("but bad bytes come first", b.source("\n`").x.compile(), 1);
    b = new Bench().source(exactly(16000, "\n} int"));
    // All of the group is cut first, so it is the last row for which there is no room.
    Bench.due("16001 pieces", b.x.compile(), 5);
    Bench.due("line", b.x.faultLine(), 2);
    b = new Bench().source(exactly(15950, "\nZ }"));
    Bench.due("a row too many", b.x.compile(), 5);
    Bench.due("line", b.x.faultLine(), 4);
    // Of the text all is cut first: the row of the last Z is not made.
    Bench.due("the row is not made", b.x.pieces(), 15951);
    b = new Bench().header("h", "12345678").source(exactly(15985, "\n#include \"h\"\n}"));
    Bench.due("an included text too many", b.x.compile(), 5);
    Bench.due("line", b.x.faultLine(), 4);
    Bench.due("not gone into", b.x.pieces(), 15985);
    b = new Bench().header("h", "1234567\001").source(exactly(15985, "\n#include \"h\"\n}"));
    Bench.due("ahead of a bad byte", b.x.compile(), 5);
    b = new Bench().header("h", "\n\n12345;7").source(exactly(15981, "\n#include \"h\"\n}"));
    Bench.due("pieces of an included text", b.x.compile(), 5);
    Bench.due("line", b.x.faultLine(), 3);
    Bench.due("text", b.x.faultText(), 1);
    b = new Bench().source(exactly(15990, "\n#if \\\n1 + 1 + 1 + 1 + 1 + 1 + 1\n#endif\n}"));
    Bench.due("pieces of a directive", b.x.compile(), 5);
    Bench.due("at their own line", b.x.faultLine(), 5);
    b = new Bench().source(exactly(15998, "\n#if \\\nINT_MIN\n#endif\n}"));
    Bench.due("a row of a directive", b.x.compile(), 5);
    Bench.due("at the directive's line", b.x.faultLine(), 4);
    String s = "#define S(x) #x\n";
    b = new Bench().source(s + exactly(15985, "\n\"\" S(abcdefgh)}"));
    Bench.due("a string without room", b.x.compile(), 5);
    Bench.due("line", b.x.faultLine(), 5);
    String twice = "#define A x x x x x x x x x x\n#define B A A A A A A A A A A\n#define C B B B B B B B B B B\n#define D C C C C C C C C C C\nint\nD D";
    Bench.faults(twice, 5, 6);
    Bench.faults("#define F(x) x x x x x x x x x x\nint\nF(F(F(\nF(F(1)))))", 5, 3);
    Bench.faults("#define F(x) x x x x x x x x x x x x x x x x x x x x x\n#define G(x) F(F(x)) x ## +\n\nint a = G(G(1));", 1, 4);
    Bench.faults("#define F(x) x x x x x x x x x x x x x x x x x x x x x\n#define G(x) F(F(x))\n\nint a = F(G(G(1)));", 5, 4);
    Bench.faults("#define S(x) #x\n#define X(x) S(x)\n#define L " + "a".repeat(4000) + "\n#define F(x) x x x x x x x x x x x x x x x x\n\nchar *s = X(F(F(L L)));", 5, 6);
  }

  private static void wholeLife() {
    Bench b = new Bench();
    b.source("int a;\n" + MAIN).x.compile();
    b.source("int b;\n" + MAIN).x.compile();
    Bench.due("of two compilings", b.x.pieces(), 2 * (3 + OF_MAIN));
    b = new Bench();
    for (int i = 0; i < 64; i++) {
      b.source("int main(void) { return 0 + 0 + 0 + " + i + "; }").runs("compiling " + i, 9, 0, 0);
      Bench.due("exit code", b.x.exitCode(), i);
    }
    Bench.due("all of them", b.x.pieces(), 64 * 16);
    Bench.due("the 65th", b.source(MAIN).header("h", "").x.compile(), 5);
    Bench.due("nothing is used up: a 17th header has no seat", fill(b), 15);
    Bench.due("the program stays", b.x.run(9), 0);
    Bench.due("exit code", b.x.exitCode(), 63);
  }

  private static int fill(Bench b) {
    int taken = 0;
    for (int i = 0; i < 20; i++) {
      taken += b.tray("x" + i).x.take(1) >= 0 ? 1 : 0;
    }
    return taken;
  }

  private static String nest(String open, int times, String inner, String close) {
    return open.repeat(times) + inner + close.repeat(times);
  }

  /** The expression has just room, and with one more of the same not. */
  private static void justRoom(String before, String just, String more, String behind) {
    Bench b = new Bench().source(before + "\nint main(void) { 1;\n" + just + behind + "; }");
    Bench.due("just room " + just.substring(0, Math.min(60, just.length())), b.x.compile(), 0);
    Bench.faults(before + "\nint main(void) { 1;\n" + more + behind + "; }", 5, 3);
  }

  private static String ranks(int level) {
    String rank = "1 | 1 ^ 1 & 1 == 1 < 1 << 1 + 1 * ";
    return nest("(" + rank, level, "1", ")");
  }

  private static void expressions() {
    // Each bracket adds 8: the room is 1 and one more for each operator on the right.
    justRoom("", "1 * " + ranks(16), "1 + 1 * " + ranks(16), "");
    justRoom("int x;", "x = 1 * " + ranks(15), "x = 1 | 1 * " + ranks(16), "");
    StringBuilder args = new StringBuilder();
    StringBuilder parameters = new StringBuilder("int f(int");
    for (int i = 0; i < 128; i++) {
      args.append("1, ");
      parameters.append(", int");
    }
    justRoom("int v(int a, ...) { return a; }", "v(" + args + "1)", "v(" + args + "1, 1)", "");
    justRoom("int v(int a, ...) { return a; }", "v(" + args + "-1)", "v(" + args + "1 + 1)", "");
    justRoom("int v(int a, ...) { return a; }", "1 && v(" + args + "(1, !sizeof(1 + (1 + 1))))", "1 && v(" + args + "(1, 1 + 1))", "");
    justRoom("int v(int a, ...) { return a; } int a[3];", "v(" + args + "1)[a]", "a[v(" + args + "1)]", "");
    justRoom("int v(int a, ...) { return a; } int x;", "v(" + args + "1) + 1", "x = v(" + args + "1)", "");
    justRoom("int v(int a, ...) { return a; }", "(char)-~v(" + args + "1)", "1 + v(" + args + "1)", "");
    justRoom("int v(int a, ...) { return a; }", "sizeof(1 + (1 + v(" + args + "1, 1, 1)))", "sizeof(1) + v(" + args + "1)", "");
    justRoom("int v(int a, ...) { return a; }", "1 ? 1 : v(" + args + "1)", "1 ? 1 : 1 * v(" + args + "1)", "");
    justRoom("int v(int a, ...) { return a; }", "1, v(" + args + "1) || 1", "1, v(" + args + "1, 1)", "");
    justRoom("struct s { int a; } f(int a, ...) { struct s r; return r; }", "f(" + args + "1).a", "1 + f(" + args + "1).a", "");
    justRoom("int v(int a, ...) { return a; }", "int x = v(" + args + "1)", "int x = 1 + v(" + args + "1)", "");
    justRoom("int v(int a, ...) { return a; }", "int x[2] = { v(" + args + "1), 1 }", "int x[2] = { v(" + args + "1), v(" + args + "1, 1) }", "");
    justRoom("int v(int a, ...) { return a; }", "return v(" + args + "1)", "return v(" + args + "1, 1)", "");
    justRoom("int v(int a, ...) { return a; }", "if (v(" + args + "1)) ", "if (v(" + args + "1, 1)) ", "");
    justRoom("int v(int a, ...) { return a; }", "for (1; v(" + args + "1); 1) ", "for (1; v(" + args + "1, 1); 1) ", "");
    justRoom("int v(int a, ...) { return a; }", "switch (v(" + args + "1)) ", "switch (v(" + args + "1, 1)) ", "");
    justRoom("", "int x[1 * " + ranks(15) + "]", "int x[1 + 1 * " + ranks(16) + "]", "");
    justRoom("", "enum { A = 1 * " + ranks(15) + "}", "enum { A = 1 + 1 * " + ranks(16) + "}", "");
    justRoom("", "struct { int a : 1 * " + ranks(15) + "; }", "struct { int a : 1 + 1 * " + ranks(16) + "; }", "");
    justRoom("", "int x[9] = { [1 * " + ranks(15) + "] = 1 }", "int x[9] = { [1 + 1 * " + ranks(16) + "] = 1 }", "");
    Bench.exits("int main(void) { return 0" + " + 1".repeat(200) + "; }", 200);
    Bench.exits("int main(void) { int x; return x = 0, 0" + " || 0".repeat(200) + "; }", 0);
    Bench.faults("int main(void) {\n switch (1) {\n case 1 + 1 * " + ranks(16) + ": ; } }", 5, 3);
    Bench.faults("int x =\n 1 + 1 * " + ranks(16) + ";\n" + MAIN, 5, 1);
    Bench.faults("int f(int a,\n int b[1 + 1 * " + ranks(16) + "]);\n" + MAIN, 5, 1);
    Bench.faults("int f(int a,\n struct s { int b[1 + 1 * " + ranks(16) + "]; } *p);\n" + MAIN, 5, 2);
  }

  private static void orderOfRoom() {
    String big = "1 + 1 * " + ranks(16);
    Bench.faults("int main(void) {\n " + big + ";\n undeclared; }", 5, 2);
    Bench.faults("int main(void) {\n int x = " + big + ",\n y = undeclared; }", 4, 2);
    Bench.faults("int main(void) {\n for (\n" + big + "; 1;\n undeclared) ; }", 4, 2);
    Bench.faults("int main(void) {\n for (\n" + big + "; 1;\n 1) undeclared; }", 5, 2);
    Bench.faults("int main(void) {\n for (\nint x = " + big + "; 1;\n undeclared) ; }", 5, 3);
    Bench.faults("int main(void) {\n if (" + big + ")\n undeclared; }", 5, 2);
    Bench.faults("int main(void) {\n do\n undeclared;\n while (" + big + "); }", 4, 3);
    Bench.faults("int f(int a[" + big + "]) {\n return undeclared; }\n" + MAIN, 5, 1);
    Bench.faults("int f(int a[" + big + "],\n int) {\n return 0; }\n" + MAIN, 4, 1);
    Bench.faults("struct s { int a[" + big + "];\n int a; };\n" + MAIN, 4, 1);
    Bench.faults("int main(void) {\n switch (1) { case 1: case " + big + ":\n undeclared; } }", 5, 2);
    Bench.faults("int main(void) {\n " + big + ";\n )", 3, 3);
    Bench.faults("int main(void) {\n goto nowhere; char a[262144]; int b;\n}\n", 4, 3);
    Bench.faults("int main(void) {\n char a[262144]; int b;\n}\nint x = undeclared;", 5, 3);
    Bench.faults("char a[240000];\nint main(void) { return undefined(); }\nint undefined(void);\n", 4, 2);
    Bench.faults("char a[240000]; int undefined(void);\nint main(void) { return undefined(); }\n\n", 4, 2);
    Bench.faults("struct s { char a[200000]; } f(void); struct s x = f(); char y = f().a[0];\nstruct s f(void) { return x; }\nint main(void) {\n return 0; }", 5, 4);
  }

  /** A thousand calls of a row of operators that is as wide as can be. */
  private static void manyCalls() {
    String rank = "z | z ^ z & z + z + z << z + z * ";
    String inner = "f(n - 1)";
    String body = nest("(" + rank, 15, inner, ")");
    Bench b = new Bench();
    b.source("int z; int f(int n) { int x = 0; if (n > 0) " + "x += (".repeat(15) + "f(n - 1)" + ")".repeat(15) + "; return x; }\nint main(void) { return f(997); }").runs("compound", 100000, 0, 0);
    b = new Bench();
    b.source("int z; int f(int n) { return n < 1 ? 0 : " + body + "; }\nint main(void) { return f(998); }").runs("wide", 100000, 0, 0);
  }
}
